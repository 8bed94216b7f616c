/-! the reference: its answers -/
set_option maxHeartbeats 4000000 in
set_option maxRecDepth 100000 in
theorem c_X7_word (G : pm_G) (l : Launch) (bs : Nat) (A : Nat → Nat) (E : pm_S) (M : pm_N) (b : Nat) (Z : az) (s : Nat) (k n : Nat) (a bb c : Int32) (S : pm_S) (hm : pm_MX M S A E) (hr : mR b Z M) (hI : zI s Z) (hk : k < 300) (hn36 : n < 37) : pm_M G l bs yX7_word cX7_word 6 none 1 0 0 [.ref (A 50), .int (nI k), .int (nI n), .int a, .int bb, .int c] S (pm_qv (fun S2 => ∃ A2 M2, (∀ i, i ≠ 60 → A2 i = A i) ∧ A2 60 = 0 ∧ pm_MX M2 S2 A2 E ∧ mR b (zPut Z k (nI n) a bb c) M2)) := by
  refine pm_Mv (L := [.ref (A 50), .int (nI k), .int (nI n), .int a, .int bb, .int c]) false (by decide +kernel) (fun h => by cases h) rfl (pm_en_1 rfl (pm_en_1 rfl (pm_en_1 rfl (pm_en_1 rfl (pm_en_1 rfl (pm_en_1 rfl (pm_en_0 rfl))))))) ?_
  generalize hQ9 : pm_xv (fun S2 => ∃ A2 M2, (∀ i, i ≠ 60 → A2 i = A i) ∧ A2 60 = 0 ∧ pm_MX M2 S2 A2 E ∧ mR b (zPut Z k (nI n) a bb c) M2) = Q9
  refine pm_aload_n dX7_word_0 rfl ?_
  refine pm_iload_n dX7_word_1 rfl ?_
  refine pm_iconst (v := 0) dX7_word_2 (by decide) ?_
  refine pm_sipush (v := 299) dX7_word_3 (by decide) ?_
  refine pm_ssi (c_X7_within G l bs (nI k) 0 299 _) pm_y_X7_within pm_s_X7_within pm_m_X7_110 dX7_word_6 rfl rfl (by decide) (Nat.le_of_ble_eq_true rfl) (fun x6 S6 h6 => ?_)
  obtain ⟨e6, rfl⟩ := h6
  rw [if_pos ⟨nI_pos' (by omega), (pm_nle (a := k) (b := 299) (by omega) (by omega)).mpr (by omega)⟩] at e6
  subst e6
  refine pm_if_eq (tgt := 22) dX7_word_9 (by decide) (fun h9 => ?_) (fun h9 => ?_)
  · exact absurd h9 (by decide)
  · skip
    skip
    refine pm_iload_n dX7_word_12 rfl ?_
    refine pm_iconst (v := 0) dX7_word_13 (by decide) ?_
    refine pm_bipush (v := 36) dX7_word_14 (by decide) ?_
    refine pm_ssi (c_X7_within G l bs (nI n) 0 36 _) pm_y_X7_within pm_s_X7_within pm_m_X7_110 dX7_word_16 rfl rfl (by decide) (Nat.le_of_ble_eq_true rfl) (fun x16 S16 h16 => ?_)
    obtain ⟨e16, rfl⟩ := h16
    rw [if_pos ⟨nI_pos' (by omega), (pm_nle (a := n) (b := 36) (by omega) (by omega)).mpr (by omega)⟩] at e16
    subst e16
    refine pm_if_ne (tgt := 26) dX7_word_19 (by decide) (fun h19 => ?_) (fun h19 => ?_)
    · skip
      skip
      refine pm_iconst (v := 0) dX7_word_26 (by decide) ?_
      refine pm_iconst (v := 1) dX7_word_27 (by decide) ?_
      refine pm_vi (c_X7_fails G l bs A E M 0 1 _ hm (Or.inl rfl)) pm_y_X7_fails pm_v_X7_fails pm_m_X7_114 (c := 7) (r := (RX7, TX7, 41)) rfl rfl hm.1 dX7_word_28 rfl rfl (by decide) (Nat.le_of_ble_eq_true rfl) (fun x28 S28 h28 => ?_)
      obtain ⟨rfl, hm28⟩ := h28
      have hr28 := hr.thr (v := nI (if (0 : Int32) = 0 then 0 else 1))
      have hB1 : aT A (if (0 : Int32) = 0 then 0 else 1) 60 = 0 := rfl
      have hB2 : ∀ i, i ≠ 60 → aT A (if (0 : Int32) = 0 then 0 else 1) i = A i := fun i hi => if_neg hi
      rw [← (aT_o (A := A) (v := (if (0 : Int32) = 0 then 0 else 1)) (i := 50) (by decide))]
      generalize aT A (if (0 : Int32) = 0 then 0 else 1) = A9 at hm28 hB1 hB2 ⊢
      have hA1 := hB1
      have hA2 := hB2
      generalize mi M 40 (nI (if (0 : Int32) = 0 then 0 else 1)) = M28 at hm28 hr28
      refine pm_if_eq (tgt := 35) dX7_word_31 (by decide) (fun h31 => ?_) (fun h31 => ?_)
      · skip
        skip
        refine pm_aload_n dX7_word_35 rfl ?_
        refine pm_g_Model_operations hm28.1 pm_f_X7_17 (hm28.2.1 2 (by decide)).1 dX7_word_36 ?_
        refine pm_iload_n dX7_word_39 rfl ?_
        refine pm_iload_n dX7_word_40 rfl ?_
        refine mm_iastore (n := _) hm28 (by decide) rfl (by show _ < 300; omega) dX7_word_41 (fun S41 hm41 => ?_)
        refine pm_aload_n dX7_word_42 rfl ?_
        refine pm_g_Model_as hm41.1 pm_f_X7_20 (hm41.2.1 3 (by decide)).1 dX7_word_43 ?_
        refine pm_iload_n dX7_word_46 rfl ?_
        refine pm_iload_n dX7_word_47 rfl ?_
        refine mm_iastore (n := _) hm41 (by decide) rfl (by show _ < 300; omega) dX7_word_48 (fun S48 hm48 => ?_)
        refine pm_aload_n dX7_word_49 rfl ?_
        refine pm_g_Model_bs hm48.1 pm_f_X7_23 (hm48.2.1 4 (by decide)).1 dX7_word_50 ?_
        refine pm_iload_n dX7_word_53 rfl ?_
        refine pm_iload dX7_word_54 rfl ?_
        refine mm_iastore (n := _) hm48 (by decide) rfl (by show _ < 300; omega) dX7_word_56 (fun S56 hm56 => ?_)
        refine pm_aload_n dX7_word_57 rfl ?_
        refine pm_g_Model_cs hm56.1 pm_f_X7_26 (hm56.2.1 5 (by decide)).1 dX7_word_58 ?_
        refine pm_iload_n dX7_word_61 rfl ?_
        refine pm_iload dX7_word_62 rfl ?_
        refine mm_iastore (n := _) hm56 (by decide) rfl (by show _ < 300; omega) dX7_word_64 (fun S64 hm64 => ?_)
        subst hQ9
        refine pm_vret dX7_word_65 ?_
        exact ⟨A9, _, hA2, hA1, hm64, hr28.wrd⟩
      · exact absurd rfl h31
    · exact absurd h19 (by decide)

set_option maxHeartbeats 4000000 in
set_option maxRecDepth 100000 in
theorem r_X7_word (G : pm_G) (l : Launch) (bs : Nat) (A : Nat → Nat) (E : pm_S) (M : pm_N) (b : Nat) (Z : az) (s : Nat) (x y a bb c : Int32) (S : pm_S) (hm : pm_MX M S A E) (hr : mR b Z M) (hI : zI s Z) (hbad : ¬ ((0 ≤ x ∧ x ≤ 299) ∧ (0 ≤ y ∧ y ≤ 36))) : pm_M G l bs yX7_word cX7_word 6 none 1 0 0 [.ref (A 50), .int x, .int y, .int a, .int bb, .int c] S (pm_qv (fun S2 => ∃ A2 M2, (∀ i, i ≠ 60 → A2 i = A i) ∧ A2 60 = 1 ∧ pm_MX M2 S2 A2 E ∧ mR b Z M2)) := by
  refine pm_Mv (L := [.ref (A 50), .int x, .int y, .int a, .int bb, .int c]) false (by decide +kernel) (fun h => by cases h) rfl (pm_en_1 rfl (pm_en_1 rfl (pm_en_1 rfl (pm_en_1 rfl (pm_en_1 rfl (pm_en_1 rfl (pm_en_0 rfl))))))) ?_
  generalize hQ9 : pm_xv (fun S2 => ∃ A2 M2, (∀ i, i ≠ 60 → A2 i = A i) ∧ A2 60 = 1 ∧ pm_MX M2 S2 A2 E ∧ mR b Z M2) = Q9
  refine pm_aload_n dX7_word_0 rfl ?_
  refine pm_iload_n dX7_word_1 rfl ?_
  refine pm_iconst (v := 0) dX7_word_2 (by decide) ?_
  refine pm_sipush (v := 299) dX7_word_3 (by decide) ?_
  refine pm_ssi (c_X7_within G l bs x 0 299 _) pm_y_X7_within pm_s_X7_within pm_m_X7_110 dX7_word_6 rfl rfl (by decide) (Nat.le_of_ble_eq_true rfl) (fun x6 S6 h6 => ?_)
  obtain ⟨rfl, rfl⟩ := h6
  refine pm_if_eq (tgt := 22) dX7_word_9 (by decide) (fun h9 => ?_) (fun h9 => ?_)
  · skip
    skip
    refine pm_iconst (v := 1) dX7_word_22 (by decide) ?_
    refine pm_goto (tgt := 27) dX7_word_23 (by decide) ?_
    refine pm_iconst (v := 1) dX7_word_27 (by decide) ?_
    refine pm_vi (c_X7_fails G l bs A E M 1 1 _ hm (Or.inr rfl)) pm_y_X7_fails pm_v_X7_fails pm_m_X7_114 (c := 7) (r := (RX7, TX7, 41)) rfl rfl hm.1 dX7_word_28 rfl rfl (by decide) (Nat.le_of_ble_eq_true rfl) (fun x28 S28 h28 => ?_)
    obtain ⟨rfl, hm28⟩ := h28
    have hr28 := hr.thr (v := nI (if (1 : Int32) = 0 then 0 else 1))
    have hB1 : aT A (if (1 : Int32) = 0 then 0 else 1) 60 = 1 := rfl
    have hB2 : ∀ i, i ≠ 60 → aT A (if (1 : Int32) = 0 then 0 else 1) i = A i := fun i hi => if_neg hi
    rw [← (aT_o (A := A) (v := (if (1 : Int32) = 0 then 0 else 1)) (i := 50) (by decide))]
    generalize aT A (if (1 : Int32) = 0 then 0 else 1) = A9 at hm28 hB1 hB2 ⊢
    have hA1 := hB1
    have hA2 := hB2
    generalize mi M 40 (nI (if (1 : Int32) = 0 then 0 else 1)) = M28 at hm28 hr28
    refine pm_if_eq (tgt := 35) dX7_word_31 (by decide) (fun h31 => ?_) (fun h31 => ?_)
    · exact absurd h31 (by decide)
    · skip
      skip
      subst hQ9
      refine pm_vret dX7_word_34 ?_
      exact ⟨A9, _, hA2, hA1, hm28, hr28⟩
  · skip
    have g1 : 0 ≤ x ∧ x ≤ 299 := Classical.byContradiction (fun z => h9 (if_neg z))
    refine pm_iload_n dX7_word_12 rfl ?_
    refine pm_iconst (v := 0) dX7_word_13 (by decide) ?_
    refine pm_bipush (v := 36) dX7_word_14 (by decide) ?_
    refine pm_ssi (c_X7_within G l bs y 0 36 _) pm_y_X7_within pm_s_X7_within pm_m_X7_110 dX7_word_16 rfl rfl (by decide) (Nat.le_of_ble_eq_true rfl) (fun x16 S16 h16 => ?_)
    obtain ⟨rfl, rfl⟩ := h16
    refine pm_if_ne (tgt := 26) dX7_word_19 (by decide) (fun h19 => ?_) (fun h19 => ?_)
    · exact absurd ⟨g1, Classical.byContradiction (fun z => h19 (if_neg z))⟩ hbad
    · skip
      skip
      refine pm_iconst (v := 1) dX7_word_22 (by decide) ?_
      refine pm_goto (tgt := 27) dX7_word_23 (by decide) ?_
      refine pm_iconst (v := 1) dX7_word_27 (by decide) ?_
      refine pm_vi (c_X7_fails G l bs A E M 1 1 _ hm (Or.inr rfl)) pm_y_X7_fails pm_v_X7_fails pm_m_X7_114 (c := 7) (r := (RX7, TX7, 41)) rfl rfl hm.1 dX7_word_28 rfl rfl (by decide) (Nat.le_of_ble_eq_true rfl) (fun x28 S28 h28 => ?_)
      obtain ⟨rfl, hm28⟩ := h28
      have hr28 := hr.thr (v := nI (if (1 : Int32) = 0 then 0 else 1))
      have hB1 : aT A (if (1 : Int32) = 0 then 0 else 1) 60 = 1 := rfl
      have hB2 : ∀ i, i ≠ 60 → aT A (if (1 : Int32) = 0 then 0 else 1) i = A i := fun i hi => if_neg hi
      rw [← (aT_o (A := A) (v := (if (1 : Int32) = 0 then 0 else 1)) (i := 50) (by decide))]
      generalize aT A (if (1 : Int32) = 0 then 0 else 1) = A9 at hm28 hB1 hB2 ⊢
      have hA1 := hB1
      have hA2 := hB2
      generalize mi M 40 (nI (if (1 : Int32) = 0 then 0 else 1)) = M28 at hm28 hr28
      refine pm_if_eq (tgt := 35) dX7_word_31 (by decide) (fun h31 => ?_) (fun h31 => ?_)
      · exact absurd h31 (by decide)
      · skip
        skip
        subst hQ9
        refine pm_vret dX7_word_34 ?_
        exact ⟨A9, _, hA2, hA1, hm28, hr28⟩

set_option maxHeartbeats 4000000 in
set_option maxRecDepth 100000 in
theorem c_X7_start (G : pm_G) (l : Launch) (bs : Nat) (A : Nat → Nat) (E : pm_S) (M : pm_N) (b : Nat) (Z : az) (s : Nat) (a pr : Nat) (S : pm_S) (hm : pm_MX M S A E) (hr : mR b Z M) (hI : zI s Z) (ha : a < 300) (hpr : pr < 3) (hlt : az_a Z 0 < 60) : pm_M G l bs yX7_start cX7_start 3 (some .int) 2 0 0 [.ref (A 50), .int (nI a), .int (nI pr)] S (pm_qi (fun x S2 => x = nI (az_a Z 0 + 1) ∧ ∃ A2 M2, (∀ i, i ≠ 60 → A2 i = A i) ∧ A2 60 = 0 ∧ pm_MX M2 S2 A2 E ∧ mR b (zNew Z a pr) M2)) := by
  refine pm_Mi (L := [.ref (A 50), .int (nI a), .int (nI pr)]) (by decide +kernel) rfl (pm_en_1 rfl (pm_en_1 rfl (pm_en_1 rfl (pm_en_0 rfl)))) ?_
  generalize hQ9 : pm_xi (fun x S2 => x = nI (az_a Z 0 + 1) ∧ ∃ A2 M2, (∀ i, i ≠ 60 → A2 i = A i) ∧ A2 60 = 0 ∧ pm_MX M2 S2 A2 E ∧ mR b (zNew Z a pr) M2) = Q9
  refine pm_aload_n dX7_start_0 rfl ?_
  refine pm_iload_n dX7_start_1 rfl ?_
  refine pm_iconst (v := 0) dX7_start_2 (by decide) ?_
  refine pm_sipush (v := 299) dX7_start_3 (by decide) ?_
  refine pm_ssi (c_X7_within G l bs (nI a) 0 299 _) pm_y_X7_within pm_s_X7_within pm_m_X7_110 dX7_start_6 rfl rfl (by decide) (Nat.le_of_ble_eq_true rfl) (fun x6 S6 h6 => ?_)
  obtain ⟨e6, rfl⟩ := h6
  rw [if_pos ⟨nI_pos' (by omega), (pm_nle (a := a) (b := 299) (by omega) (by omega)).mpr (by omega)⟩] at e6
  subst e6
  refine pm_if_eq (tgt := 21) dX7_start_9 (by decide) (fun h9 => ?_) (fun h9 => ?_)
  · exact absurd h9 (by decide)
  · skip
    skip
    refine pm_iload_n dX7_start_12 rfl ?_
    refine pm_iconst (v := 0) dX7_start_13 (by decide) ?_
    refine pm_iconst (v := 2) dX7_start_14 (by decide) ?_
    refine pm_ssi (c_X7_within G l bs (nI pr) 0 2 _) pm_y_X7_within pm_s_X7_within pm_m_X7_110 dX7_start_15 rfl rfl (by decide) (Nat.le_of_ble_eq_true rfl) (fun x15 S15 h15 => ?_)
    obtain ⟨e15, rfl⟩ := h15
    rw [if_pos ⟨nI_pos' (by omega), (pm_nle (a := pr) (b := 2) (by omega) (by omega)).mpr (by omega)⟩] at e15
    subst e15
    refine pm_if_ne (tgt := 25) dX7_start_18 (by decide) (fun h18 => ?_) (fun h18 => ?_)
    · skip
      skip
      refine pm_iconst (v := 0) dX7_start_25 (by decide) ?_
      refine pm_iconst (v := 1) dX7_start_26 (by decide) ?_
      refine pm_vi (c_X7_fails G l bs A E M 0 1 _ hm (Or.inl rfl)) pm_y_X7_fails pm_v_X7_fails pm_m_X7_114 (c := 7) (r := (RX7, TX7, 41)) rfl rfl hm.1 dX7_start_27 rfl rfl (by decide) (Nat.le_of_ble_eq_true rfl) (fun x27 S27 h27 => ?_)
      obtain ⟨rfl, hm27⟩ := h27
      have hr27 := hr.thr (v := nI (if (0 : Int32) = 0 then 0 else 1))
      have hB1 : aT A (if (0 : Int32) = 0 then 0 else 1) 60 = 0 := rfl
      have hB2 : ∀ i, i ≠ 60 → aT A (if (0 : Int32) = 0 then 0 else 1) i = A i := fun i hi => if_neg hi
      rw [← (aT_o (A := A) (v := (if (0 : Int32) = 0 then 0 else 1)) (i := 50) (by decide))]
      generalize aT A (if (0 : Int32) = 0 then 0 else 1) = A9 at hm27 hB1 hB2 ⊢
      have hA1 := hB1
      have hA2 := hB2
      generalize mi M 40 (nI (if (0 : Int32) = 0 then 0 else 1)) = M27 at hm27 hr27
      refine pm_if_ne (tgt := 55) dX7_start_30 (by decide) (fun h30 => ?_) (fun h30 => ?_)
      · exact absurd rfl h30
      · skip
        skip
        refine pm_aload_n dX7_start_33 rfl ?_
        refine pm_aload_n dX7_start_34 rfl ?_
        refine pm_g_Model_count hm27.1 pm_f_X7_121 dX7_start_35 ?_
        rw [hm27.f (g := 375) (f := 25) rfl]
        refine pm_bipush (v := 60) dX7_start_38 (by decide) ?_
        rw [hr27.A (i := 0) rfl]
        refine pm_icmp_ne (tgt := 47) dX7_start_40 (by decide) (fun h40 => ?_) (fun h40 => ?_)
        · skip
          skip
          refine pm_iconst (v := 0) dX7_start_47 (by decide) ?_
          refine pm_iconst (v := 2) dX7_start_48 (by decide) ?_
          refine pm_vi (c_X7_fails G l bs A9 E M27 0 2 _ hm27 (Or.inl rfl)) pm_y_X7_fails pm_v_X7_fails pm_m_X7_114 (c := 7) (r := (RX7, TX7, 41)) rfl rfl hm27.1 dX7_start_49 rfl rfl (by decide) (Nat.le_of_ble_eq_true rfl) (fun x49 S49 h49 => ?_)
          obtain ⟨rfl, hm49⟩ := h49
          have hr49 := hr27.thr (v := nI (if (0 : Int32) = 0 then 0 else 2))
          have hB1 : aT A9 (if (0 : Int32) = 0 then 0 else 2) 60 = 0 := rfl
          have hB2 : ∀ i, i ≠ 60 → aT A9 (if (0 : Int32) = 0 then 0 else 2) i = A i := fun i hi => (if_neg hi : aT A9 (if (0 : Int32) = 0 then 0 else 2) i = A9 i).trans (hA2 i hi)
          rw [← (aT_o (A := A9) (v := (if (0 : Int32) = 0 then 0 else 2)) (i := 50) (by decide))]
          generalize aT A9 (if (0 : Int32) = 0 then 0 else 2) = A8 at hm49 hB1 hB2 ⊢
          have hA1 := hB1
          have hA2 := hB2
          generalize mi M27 40 (nI (if (0 : Int32) = 0 then 0 else 2)) = M49 at hm49 hr49
          refine pm_if_eq (tgt := 57) dX7_start_52 (by decide) (fun h52 => ?_) (fun h52 => ?_)
          · skip
            skip
            refine pm_aload_n dX7_start_57 rfl ?_
            refine pm_iload_n dX7_start_58 rfl ?_
            refine pm_iload_n dX7_start_59 rfl ?_
            refine pm_vi (c_X7_create G l bs A8 E M49 b Z s a pr _ hm49 hr49 hI hlt) pm_y_X7_create pm_v_X7_create pm_m_X7_132 (c := 7) (r := (RX7, TX7, 41)) rfl rfl hm49.1 dX7_start_60 rfl rfl (by decide) (Nat.le_of_ble_eq_true rfl) (fun x60 S60 h60 => ?_)
            obtain ⟨rfl, M60, hm60, hr60⟩ := h60
            refine pm_iconst (v := 1) dX7_start_63 (by decide) ?_
            refine pm_iadd dX7_start_64 ?_
            subst hQ9
            refine pm_iret dX7_start_65 ?_
            exact ⟨nI_1 _, A8, M60, hA2, hA1, hm60, hr60⟩
          · exact absurd rfl h52
        · exact absurd ((nI_eq (b := 60) (by omega) (by decide)).mp h40) (by omega)
    · exact absurd h18 (by decide)

set_option maxHeartbeats 4000000 in
set_option maxRecDepth 100000 in
theorem r_X7_start (G : pm_G) (l : Launch) (bs : Nat) (A : Nat → Nat) (E : pm_S) (M : pm_N) (b : Nat) (Z : az) (s : Nat) (x y : Int32) (S : pm_S) (hm : pm_MX M S A E) (hr : mR b Z M) (hI : zI s Z) (hbad : ¬ ((0 ≤ x ∧ x ≤ 299) ∧ (0 ≤ y ∧ y ≤ 2))) : pm_M G l bs yX7_start cX7_start 3 (some .int) 1 0 0 [.ref (A 50), .int x, .int y] S (pm_qi (fun x S2 => ∃ A2 M2, (∀ i, i ≠ 60 → A2 i = A i) ∧ A2 60 = 1 ∧ pm_MX M2 S2 A2 E ∧ mR b Z M2)) := by
  refine pm_Mi (L := [.ref (A 50), .int x, .int y]) (by decide +kernel) rfl (pm_en_1 rfl (pm_en_1 rfl (pm_en_1 rfl (pm_en_0 rfl)))) ?_
  generalize hQ9 : pm_xi (fun x S2 => ∃ A2 M2, (∀ i, i ≠ 60 → A2 i = A i) ∧ A2 60 = 1 ∧ pm_MX M2 S2 A2 E ∧ mR b Z M2) = Q9
  refine pm_aload_n dX7_start_0 rfl ?_
  refine pm_iload_n dX7_start_1 rfl ?_
  refine pm_iconst (v := 0) dX7_start_2 (by decide) ?_
  refine pm_sipush (v := 299) dX7_start_3 (by decide) ?_
  refine pm_ssi (c_X7_within G l bs x 0 299 _) pm_y_X7_within pm_s_X7_within pm_m_X7_110 dX7_start_6 rfl rfl (by decide) (Nat.le_of_ble_eq_true rfl) (fun x6 S6 h6 => ?_)
  obtain ⟨rfl, rfl⟩ := h6
  refine pm_if_eq (tgt := 21) dX7_start_9 (by decide) (fun h9 => ?_) (fun h9 => ?_)
  · skip
    skip
    refine pm_iconst (v := 1) dX7_start_21 (by decide) ?_
    refine pm_goto (tgt := 26) dX7_start_22 (by decide) ?_
    refine pm_iconst (v := 1) dX7_start_26 (by decide) ?_
    refine pm_vi (c_X7_fails G l bs A E M 1 1 _ hm (Or.inr rfl)) pm_y_X7_fails pm_v_X7_fails pm_m_X7_114 (c := 7) (r := (RX7, TX7, 41)) rfl rfl hm.1 dX7_start_27 rfl rfl (by decide) (Nat.le_of_ble_eq_true rfl) (fun x27 S27 h27 => ?_)
    obtain ⟨rfl, hm27⟩ := h27
    have hr27 := hr.thr (v := nI (if (1 : Int32) = 0 then 0 else 1))
    have hB1 : aT A (if (1 : Int32) = 0 then 0 else 1) 60 = 1 := rfl
    have hB2 : ∀ i, i ≠ 60 → aT A (if (1 : Int32) = 0 then 0 else 1) i = A i := fun i hi => if_neg hi
    rw [← (aT_o (A := A) (v := (if (1 : Int32) = 0 then 0 else 1)) (i := 50) (by decide))]
    generalize aT A (if (1 : Int32) = 0 then 0 else 1) = A9 at hm27 hB1 hB2 ⊢
    have hA1 := hB1
    have hA2 := hB2
    generalize mi M 40 (nI (if (1 : Int32) = 0 then 0 else 1)) = M27 at hm27 hr27
    refine pm_if_ne (tgt := 55) dX7_start_30 (by decide) (fun h30 => ?_) (fun h30 => ?_)
    · skip
      skip
      refine pm_iconst (v := 0) dX7_start_55 (by decide) ?_
      subst hQ9
      refine pm_iret dX7_start_56 ?_
      exact ⟨A9, _, hA2, hA1, hm27, hr27⟩
    · exact absurd h30 (by decide)
  · skip
    have g1 : 0 ≤ x ∧ x ≤ 299 := Classical.byContradiction (fun z => h9 (if_neg z))
    refine pm_iload_n dX7_start_12 rfl ?_
    refine pm_iconst (v := 0) dX7_start_13 (by decide) ?_
    refine pm_iconst (v := 2) dX7_start_14 (by decide) ?_
    refine pm_ssi (c_X7_within G l bs y 0 2 _) pm_y_X7_within pm_s_X7_within pm_m_X7_110 dX7_start_15 rfl rfl (by decide) (Nat.le_of_ble_eq_true rfl) (fun x15 S15 h15 => ?_)
    obtain ⟨rfl, rfl⟩ := h15
    refine pm_if_ne (tgt := 25) dX7_start_18 (by decide) (fun h18 => ?_) (fun h18 => ?_)
    · exact absurd ⟨g1, Classical.byContradiction (fun z => h18 (if_neg z))⟩ hbad
    · skip
      skip
      refine pm_iconst (v := 1) dX7_start_21 (by decide) ?_
      refine pm_goto (tgt := 26) dX7_start_22 (by decide) ?_
      refine pm_iconst (v := 1) dX7_start_26 (by decide) ?_
      refine pm_vi (c_X7_fails G l bs A E M 1 1 _ hm (Or.inr rfl)) pm_y_X7_fails pm_v_X7_fails pm_m_X7_114 (c := 7) (r := (RX7, TX7, 41)) rfl rfl hm.1 dX7_start_27 rfl rfl (by decide) (Nat.le_of_ble_eq_true rfl) (fun x27 S27 h27 => ?_)
      obtain ⟨rfl, hm27⟩ := h27
      have hr27 := hr.thr (v := nI (if (1 : Int32) = 0 then 0 else 1))
      have hB1 : aT A (if (1 : Int32) = 0 then 0 else 1) 60 = 1 := rfl
      have hB2 : ∀ i, i ≠ 60 → aT A (if (1 : Int32) = 0 then 0 else 1) i = A i := fun i hi => if_neg hi
      rw [← (aT_o (A := A) (v := (if (1 : Int32) = 0 then 0 else 1)) (i := 50) (by decide))]
      generalize aT A (if (1 : Int32) = 0 then 0 else 1) = A9 at hm27 hB1 hB2 ⊢
      have hA1 := hB1
      have hA2 := hB2
      generalize mi M 40 (nI (if (1 : Int32) = 0 then 0 else 1)) = M27 at hm27 hr27
      refine pm_if_ne (tgt := 55) dX7_start_30 (by decide) (fun h30 => ?_) (fun h30 => ?_)
      · skip
        skip
        refine pm_iconst (v := 0) dX7_start_55 (by decide) ?_
        subst hQ9
        refine pm_iret dX7_start_56 ?_
        exact ⟨A9, _, hA2, hA1, hm27, hr27⟩
      · exact absurd h30 (by decide)

set_option maxHeartbeats 4000000 in
set_option maxRecDepth 100000 in
theorem r2_X7_start (G : pm_G) (l : Launch) (bs : Nat) (A : Nat → Nat) (E : pm_S) (M : pm_N) (b : Nat) (Z : az) (s : Nat) (a pr : Nat) (S : pm_S) (hm : pm_MX M S A E) (hr : mR b Z M) (hI : zI s Z) (ha : a < 300) (hpr : pr < 3) (h60 : az_a Z 0 = 60) : pm_M G l bs yX7_start cX7_start 3 (some .int) 1 0 0 [.ref (A 50), .int (nI a), .int (nI pr)] S (pm_qi (fun x S2 => ∃ A2 M2, (∀ i, i ≠ 60 → A2 i = A i) ∧ A2 60 = 2 ∧ pm_MX M2 S2 A2 E ∧ mR b Z M2)) := by
  refine pm_Mi (L := [.ref (A 50), .int (nI a), .int (nI pr)]) (by decide +kernel) rfl (pm_en_1 rfl (pm_en_1 rfl (pm_en_1 rfl (pm_en_0 rfl)))) ?_
  generalize hQ9 : pm_xi (fun x S2 => ∃ A2 M2, (∀ i, i ≠ 60 → A2 i = A i) ∧ A2 60 = 2 ∧ pm_MX M2 S2 A2 E ∧ mR b Z M2) = Q9
  refine pm_aload_n dX7_start_0 rfl ?_
  refine pm_iload_n dX7_start_1 rfl ?_
  refine pm_iconst (v := 0) dX7_start_2 (by decide) ?_
  refine pm_sipush (v := 299) dX7_start_3 (by decide) ?_
  refine pm_ssi (c_X7_within G l bs (nI a) 0 299 _) pm_y_X7_within pm_s_X7_within pm_m_X7_110 dX7_start_6 rfl rfl (by decide) (Nat.le_of_ble_eq_true rfl) (fun x6 S6 h6 => ?_)
  obtain ⟨e6, rfl⟩ := h6
  rw [if_pos ⟨nI_pos' (by omega), (pm_nle (a := a) (b := 299) (by omega) (by omega)).mpr (by omega)⟩] at e6
  subst e6
  refine pm_if_eq (tgt := 21) dX7_start_9 (by decide) (fun h9 => ?_) (fun h9 => ?_)
  · exact absurd h9 (by decide)
  · skip
    skip
    refine pm_iload_n dX7_start_12 rfl ?_
    refine pm_iconst (v := 0) dX7_start_13 (by decide) ?_
    refine pm_iconst (v := 2) dX7_start_14 (by decide) ?_
    refine pm_ssi (c_X7_within G l bs (nI pr) 0 2 _) pm_y_X7_within pm_s_X7_within pm_m_X7_110 dX7_start_15 rfl rfl (by decide) (Nat.le_of_ble_eq_true rfl) (fun x15 S15 h15 => ?_)
    obtain ⟨e15, rfl⟩ := h15
    rw [if_pos ⟨nI_pos' (by omega), (pm_nle (a := pr) (b := 2) (by omega) (by omega)).mpr (by omega)⟩] at e15
    subst e15
    refine pm_if_ne (tgt := 25) dX7_start_18 (by decide) (fun h18 => ?_) (fun h18 => ?_)
    · skip
      skip
      refine pm_iconst (v := 0) dX7_start_25 (by decide) ?_
      refine pm_iconst (v := 1) dX7_start_26 (by decide) ?_
      refine pm_vi (c_X7_fails G l bs A E M 0 1 _ hm (Or.inl rfl)) pm_y_X7_fails pm_v_X7_fails pm_m_X7_114 (c := 7) (r := (RX7, TX7, 41)) rfl rfl hm.1 dX7_start_27 rfl rfl (by decide) (Nat.le_of_ble_eq_true rfl) (fun x27 S27 h27 => ?_)
      obtain ⟨rfl, hm27⟩ := h27
      have hr27 := hr.thr (v := nI (if (0 : Int32) = 0 then 0 else 1))
      have hB1 : aT A (if (0 : Int32) = 0 then 0 else 1) 60 = 0 := rfl
      have hB2 : ∀ i, i ≠ 60 → aT A (if (0 : Int32) = 0 then 0 else 1) i = A i := fun i hi => if_neg hi
      rw [← (aT_o (A := A) (v := (if (0 : Int32) = 0 then 0 else 1)) (i := 50) (by decide))]
      generalize aT A (if (0 : Int32) = 0 then 0 else 1) = A9 at hm27 hB1 hB2 ⊢
      have hA1 := hB1
      have hA2 := hB2
      generalize mi M 40 (nI (if (0 : Int32) = 0 then 0 else 1)) = M27 at hm27 hr27
      refine pm_if_ne (tgt := 55) dX7_start_30 (by decide) (fun h30 => ?_) (fun h30 => ?_)
      · exact absurd rfl h30
      · skip
        skip
        refine pm_aload_n dX7_start_33 rfl ?_
        refine pm_aload_n dX7_start_34 rfl ?_
        refine pm_g_Model_count hm27.1 pm_f_X7_121 dX7_start_35 ?_
        rw [hm27.f (g := 375) (f := 25) rfl]
        refine pm_bipush (v := 60) dX7_start_38 (by decide) ?_
        rw [hr27.A (i := 0) rfl, h60]
        refine pm_icmp_ne (tgt := 47) dX7_start_40 (by decide) (fun h40 => ?_) (fun h40 => ?_)
        · exact absurd rfl h40
        · skip
          skip
          refine pm_iconst (v := 1) dX7_start_43 (by decide) ?_
          refine pm_goto (tgt := 48) dX7_start_44 (by decide) ?_
          refine pm_iconst (v := 2) dX7_start_48 (by decide) ?_
          refine pm_vi (c_X7_fails G l bs A9 E M27 1 2 _ hm27 (Or.inr rfl)) pm_y_X7_fails pm_v_X7_fails pm_m_X7_114 (c := 7) (r := (RX7, TX7, 41)) rfl rfl hm27.1 dX7_start_49 rfl rfl (by decide) (Nat.le_of_ble_eq_true rfl) (fun x49 S49 h49 => ?_)
          obtain ⟨rfl, hm49⟩ := h49
          have hr49 := hr27.thr (v := nI (if (1 : Int32) = 0 then 0 else 2))
          have hB1 : aT A9 (if (1 : Int32) = 0 then 0 else 2) 60 = 2 := rfl
          have hB2 : ∀ i, i ≠ 60 → aT A9 (if (1 : Int32) = 0 then 0 else 2) i = A i := fun i hi => (if_neg hi : aT A9 (if (1 : Int32) = 0 then 0 else 2) i = A9 i).trans (hA2 i hi)
          rw [← (aT_o (A := A9) (v := (if (1 : Int32) = 0 then 0 else 2)) (i := 50) (by decide))]
          generalize aT A9 (if (1 : Int32) = 0 then 0 else 2) = A8 at hm49 hB1 hB2 ⊢
          have hA1 := hB1
          have hA2 := hB2
          generalize mi M27 40 (nI (if (1 : Int32) = 0 then 0 else 2)) = M49 at hm49 hr49
          refine pm_if_eq (tgt := 57) dX7_start_52 (by decide) (fun h52 => ?_) (fun h52 => ?_)
          · exact absurd h52 (by decide)
          · skip
            skip
            refine pm_iconst (v := 0) dX7_start_55 (by decide) ?_
            subst hQ9
            refine pm_iret dX7_start_56 ?_
            exact ⟨A8, _, hA2, hA1, hm49, hr49⟩
    · exact absurd h18 (by decide)

set_option maxHeartbeats 4000000 in
set_option maxRecDepth 100000 in
theorem c_X7_send (G : pm_G) (l : Launch) (bs : Nat) (A : Nat → Nat) (E : pm_S) (M : pm_N) (b : Nat) (Z : az) (s : Nat) (q : Nat) (v : Int32) (S : pm_S) (hm : pm_MX M S A E) (hr : mR b Z M) (hI : zI s Z) (hq : q < az_a Z 0) : pm_M G l bs yX7_send cX7_send 3 (some .boolean) 2 0 0 [.ref (A 50), .int (nI (q + 1)), .int v] S (pm_qi (fun x S2 => x = (if az_b Z 1 q ≠ 2 ∧ az_b Z 9 q < 40 then 1 else 0) ∧ ∃ A2 M2, (∀ i, i ≠ 60 → A2 i = A i) ∧ A2 60 = 0 ∧ pm_MX M2 S2 A2 E ∧ mR b (zComes Z q [0, v]) M2)) := by
  have hn := hI.1
  have hsm := hI.sm
  have h9b := hI.b9
  refine pm_Mz (L := [.ref (A 50), .int (nI (q + 1)), .int v]) (by decide +kernel) rfl (pm_en_1 rfl (pm_en_1 rfl (pm_en_1 rfl (pm_en_0 rfl)))) ?_
  generalize hQ9 : pm_xz (fun x S2 => x = (if az_b Z 1 q ≠ 2 ∧ az_b Z 9 q < 40 then 1 else 0) ∧ ∃ A2 M2, (∀ i, i ≠ 60 → A2 i = A i) ∧ A2 60 = 0 ∧ pm_MX M2 S2 A2 E ∧ mR b (zComes Z q [0, v]) M2) = Q9
  refine pm_aload_n dX7_send_0 rfl ?_
  refine pm_aload_n dX7_send_1 rfl ?_
  refine pm_iload_n dX7_send_2 rfl ?_
  refine pm_vi (c_X7_isProcess G l bs A E M (nI (q + 1)) _ hm) pm_y_X7_isProcess pm_v_X7_isProcess pm_m_X7_143 (c := 7) (r := (RX7, TX7, 41)) rfl rfl hm.1 dX7_send_3 rfl rfl (by decide) (Nat.le_of_ble_eq_true rfl) (fun x3 S3 h3 => ?_)
  obtain ⟨e3, rfl⟩ := h3
  rw [hr.A (i := 0) rfl, if_pos ⟨(pm_nle (a := 1) (b := q + 1) (by omega) (by omega)).mpr (by omega), (pm_nle (a := q + 1) (b := az_a Z 0) (by omega) (by omega)).mpr (by omega)⟩] at e3
  subst e3
  refine pm_if_ne (tgt := 13) dX7_send_6 (by decide) (fun h6 => ?_) (fun h6 => ?_)
  · skip
    skip
    refine pm_iconst (v := 0) dX7_send_13 (by decide) ?_
    refine pm_iconst (v := 1) dX7_send_14 (by decide) ?_
    refine pm_vi (c_X7_fails G l bs A E M 0 1 _ hm (Or.inl rfl)) pm_y_X7_fails pm_v_X7_fails pm_m_X7_114 (c := 7) (r := (RX7, TX7, 41)) rfl rfl hm.1 dX7_send_15 rfl rfl (by decide) (Nat.le_of_ble_eq_true rfl) (fun x15 S15 h15 => ?_)
    obtain ⟨rfl, hm15⟩ := h15
    have hr15 := hr.thr (v := nI (if (0 : Int32) = 0 then 0 else 1))
    have hB1 : aT A (if (0 : Int32) = 0 then 0 else 1) 60 = 0 := rfl
    have hB2 : ∀ i, i ≠ 60 → aT A (if (0 : Int32) = 0 then 0 else 1) i = A i := fun i hi => if_neg hi
    rw [← (aT_o (A := A) (v := (if (0 : Int32) = 0 then 0 else 1)) (i := 50) (by decide))]
    generalize aT A (if (0 : Int32) = 0 then 0 else 1) = A9 at hm15 hB1 hB2 ⊢
    have hA1 := hB1
    have hA2 := hB2
    generalize mi M 40 (nI (if (0 : Int32) = 0 then 0 else 1)) = M15 at hm15 hr15
    refine pm_if_eq (tgt := 23) dX7_send_18 (by decide) (fun h18 => ?_) (fun h18 => ?_)
    · skip
      skip
      refine pm_aload_n dX7_send_23 rfl ?_
      refine pm_sipush (v := 2940) dX7_send_24 (by decide) ?_
      refine pm_iconst (v := 0) dX7_send_27 (by decide) ?_
      refine pm_iload_n dX7_send_28 rfl ?_
      refine pm_vv (c_X7_set G l bs A9 E M15 2940 0 v _ hm15 (by decide)) pm_y_X7_set pm_v_X7_set pm_m_X7_124 (c := 7) (r := (RX7, TX7, 41)) rfl rfl hm15.1 dX7_send_29 rfl rfl (by decide) (Nat.le_of_ble_eq_true rfl) (fun S29 h29 => ?_)
      obtain ⟨M29, hm29, mt29, sl29⟩ := h29
      have hr29 := hr15.T hn h9b mt29 (by decide)
      refine pm_aload_n dX7_send_32 rfl ?_
      refine pm_iload_n dX7_send_33 rfl ?_
      refine pm_iconst (v := 1) dX7_send_34 (by decide) ?_
      refine pm_isub dX7_send_35 ?_
      refine pm_sipush (v := 2940) dX7_send_36 (by decide) ?_
      rw [show nI (q + 1) - 1 = nI q from nI_pred q]
      refine pm_vi (c_X7_comes G l bs A9 E M29 b Z s q 2940 [0, v] _ hm29 hr29 hI hq (by decide) sl29) pm_y_X7_comes pm_v_X7_comes pm_m_X7_147 (c := 7) (r := (RX7, TX7, 41)) rfl rfl hm29.1 dX7_send_39 rfl rfl (by decide) (Nat.le_of_ble_eq_true rfl) (fun x39 S39 h39 => ?_)
      obtain ⟨rfl, M39, hm39, hr39⟩ := h39
      subst hQ9
      refine pm_zret dX7_send_42 (by split; exact Or.inr rfl; exact Or.inl rfl) ?_
      exact ⟨rfl, A9, M39, hA2, hA1, hm39, hr39⟩
    · exact absurd rfl h18
  · exact absurd h6 (by decide)

set_option maxHeartbeats 4000000 in
set_option maxRecDepth 100000 in
theorem r_X7_send (G : pm_G) (l : Launch) (bs : Nat) (A : Nat → Nat) (E : pm_S) (M : pm_N) (b : Nat) (Z : az) (s : Nat) (x v : Int32) (S : pm_S) (hm : pm_MX M S A E) (hr : mR b Z M) (hI : zI s Z) (hbad : ¬ (1 ≤ x ∧ x ≤ nI (az_a Z 0))) : pm_M G l bs yX7_send cX7_send 3 (some .boolean) 2 0 0 [.ref (A 50), .int x, .int v] S (pm_qi (fun x S2 => ∃ A2 M2, (∀ i, i ≠ 60 → A2 i = A i) ∧ A2 60 = 1 ∧ pm_MX M2 S2 A2 E ∧ mR b Z M2)) := by
  refine pm_Mz (L := [.ref (A 50), .int x, .int v]) (by decide +kernel) rfl (pm_en_1 rfl (pm_en_1 rfl (pm_en_1 rfl (pm_en_0 rfl)))) ?_
  generalize hQ9 : pm_xz (fun x S2 => ∃ A2 M2, (∀ i, i ≠ 60 → A2 i = A i) ∧ A2 60 = 1 ∧ pm_MX M2 S2 A2 E ∧ mR b Z M2) = Q9
  refine pm_aload_n dX7_send_0 rfl ?_
  refine pm_aload_n dX7_send_1 rfl ?_
  refine pm_iload_n dX7_send_2 rfl ?_
  refine pm_vi (c_X7_isProcess G l bs A E M x _ hm) pm_y_X7_isProcess pm_v_X7_isProcess pm_m_X7_143 (c := 7) (r := (RX7, TX7, 41)) rfl rfl hm.1 dX7_send_3 rfl rfl (by decide) (Nat.le_of_ble_eq_true rfl) (fun x3 S3 h3 => ?_)
  obtain ⟨e3, rfl⟩ := h3
  rw [hr.A (i := 0) rfl] at e3
  subst e3
  refine pm_if_ne (tgt := 13) dX7_send_6 (by decide) (fun h6 => ?_) (fun h6 => ?_)
  · exact absurd (Classical.byContradiction (fun z => h6 (if_neg z))) hbad
  · skip
    skip
    refine pm_iconst (v := 1) dX7_send_9 (by decide) ?_
    refine pm_goto (tgt := 14) dX7_send_10 (by decide) ?_
    refine pm_iconst (v := 1) dX7_send_14 (by decide) ?_
    refine pm_vi (c_X7_fails G l bs A E M 1 1 _ hm (Or.inr rfl)) pm_y_X7_fails pm_v_X7_fails pm_m_X7_114 (c := 7) (r := (RX7, TX7, 41)) rfl rfl hm.1 dX7_send_15 rfl rfl (by decide) (Nat.le_of_ble_eq_true rfl) (fun x15 S15 h15 => ?_)
    obtain ⟨rfl, hm15⟩ := h15
    have hr15 := hr.thr (v := nI (if (1 : Int32) = 0 then 0 else 1))
    have hB1 : aT A (if (1 : Int32) = 0 then 0 else 1) 60 = 1 := rfl
    have hB2 : ∀ i, i ≠ 60 → aT A (if (1 : Int32) = 0 then 0 else 1) i = A i := fun i hi => if_neg hi
    rw [← (aT_o (A := A) (v := (if (1 : Int32) = 0 then 0 else 1)) (i := 50) (by decide))]
    generalize aT A (if (1 : Int32) = 0 then 0 else 1) = A9 at hm15 hB1 hB2 ⊢
    have hA1 := hB1
    have hA2 := hB2
    generalize mi M 40 (nI (if (1 : Int32) = 0 then 0 else 1)) = M15 at hm15 hr15
    refine pm_if_eq (tgt := 23) dX7_send_18 (by decide) (fun h18 => ?_) (fun h18 => ?_)
    · exact absurd h18 (by decide)
    · skip
      skip
      refine pm_iconst (v := 0) dX7_send_21 (by decide) ?_
      subst hQ9
      refine pm_zret dX7_send_22 (by first | exact Or.inl rfl | exact Or.inr rfl | assumption) ?_
      exact ⟨A9, _, hA2, hA1, hm15, hr15⟩

set_option maxHeartbeats 4000000 in
set_option maxRecDepth 100000 in
theorem c_X7_out (G : pm_G) (l : Launch) (bs : Nat) (A : Nat → Nat) (E : pm_S) (M : pm_N) (b : Nat) (Z : az) (s : Nat) (i : Int32) (S : pm_S) (hm : pm_MX M S A E) (hr : mR b Z M) (hI : zI s Z) : pm_M G l bs yX7_out cX7_out 2 (some .int) 0 0 0 [.ref (A 50), .int i] S (pm_qi (fun x S2 => x = (if 0 ≤ i ∧ i.toInt < min (az_a Z 9) 600 then az_x Z 1 i.toInt.toNat else -1) ∧ ∃ A2 M2, (∀ i, i ≠ 60 → A2 i = A i) ∧ A2 60 = 0 ∧ pm_MX M2 S2 A2 E ∧ mR b Z M2)) := by
  have h9s : az_a Z 9 < 2 ^ 31 := by have q1 := hI.2.2.2.2.2.2.2.2.2.2.1.2; have q2 := hI.2.2.2.2.2.2.2.2.2.2.2.2.1; omega
  refine pm_Mi (L := [.ref (A 50), .int i]) (by decide +kernel) rfl (pm_en_1 rfl (pm_en_1 rfl (pm_en_0 rfl))) ?_
  generalize hQ9 : pm_xi (fun x S2 => x = (if 0 ≤ i ∧ i.toInt < min (az_a Z 9) 600 then az_x Z 1 i.toInt.toNat else -1) ∧ ∃ A2 M2, (∀ i, i ≠ 60 → A2 i = A i) ∧ A2 60 = 0 ∧ pm_MX M2 S2 A2 E ∧ mR b Z M2) = Q9
  refine pm_aload_n dX7_out_0 rfl ?_
  refine pm_iconst (v := 0) dX7_out_1 (by decide) ?_
  rw [show Value.int 0 = Value.int (nI 0) from rfl]
  refine pm_p_Model_thrown hm.1 pm_f_X7_102 dX7_out_2 ?_
  refine mm_gen (hm.th (g := 390) rfl) (fun S2 hm2 => ?_)
  have hr2 := hr.thr (v := nI 0)
  have hA1 : aT A 0 60 = 0 := rfl
  have hA2 : ∀ i, i ≠ 60 → aT A 0 i = A i := fun i hi => if_neg hi
  rw [← aT_o (A := A) (v := 0) (i := 50) (by decide)]
  generalize aT A 0 = A9 at hm2 hA1 hA2 ⊢
  generalize mi M 40 (nI 0) = M2 at hm2 hr2
  refine pm_iload_n dX7_out_5 rfl ?_
  refine pm_if_lt (tgt := 33) dX7_out_6 (by decide) (fun h6 => ?_) (fun h6 => ?_)
  · skip
    have h9 : ¬ (0 ≤ i ∧ i.toInt < min (az_a Z 9) 600) := fun z => Int32.not_le.mpr h6 z.1
    refine pm_iconst (v := (-1)) dX7_out_33 (by decide) ?_
    subst hQ9
    refine pm_iret dX7_out_34 ?_
    first
    | exact ⟨(if_neg h9).symm, A9, M2, hA2, hA1, hm2, hr2⟩
    | exact ⟨by rw [if_pos h9, nI_toInt hj, Int.toNat_natCast], A9, M2, hA2, hA1, hm2, hr2⟩
  · skip
    have g1 : 0 ≤ i := Int32.not_lt.mp h6
    obtain ⟨j, hj, rfl⟩ := nI_of h6
    refine pm_iload_n dX7_out_9 rfl ?_
    refine pm_aload_n dX7_out_10 rfl ?_
    refine pm_g_Model_printed hm2.1 pm_f_X7_260 dX7_out_11 ?_
    rw [hm2.f (g := 385) (f := 35) rfl]
    rw [hr2.A (i := 9) rfl]
    refine pm_icmp_ge (tgt := 33) dX7_out_14 (by decide) (fun h14 => ?_) (fun h14 => ?_)
    · skip
      have g2 : az_a Z 9 ≤ j := (pm_nle (a := az_a Z 9) (b := j) (by omega) (by omega)).mp h14
      have h9 : ¬ (0 ≤ nI j ∧ (nI j).toInt < min (az_a Z 9) 600) := fun z => by rw [nI_toInt hj] at z; omega
      refine pm_iconst (v := (-1)) dX7_out_33 (by decide) ?_
      subst hQ9
      refine pm_iret dX7_out_34 ?_
      first
      | exact ⟨(if_neg h9).symm, A9, M2, hA2, hA1, hm2, hr2⟩
      | exact ⟨by rw [if_pos h9, nI_toInt hj, Int.toNat_natCast], A9, M2, hA2, hA1, hm2, hr2⟩
    · skip
      have g2 : j < az_a Z 9 := by rcases Nat.lt_or_ge j (az_a Z 9) with y | y; exact y; exact absurd ((pm_nle (a := az_a Z 9) (b := j) (by omega) (by omega)).mpr y) h14
      refine pm_iload_n dX7_out_17 rfl ?_
      refine pm_sipush (v := 600) dX7_out_18 (by decide) ?_
      refine pm_icmp_ge (tgt := 33) dX7_out_21 (by decide) (fun h21 => ?_) (fun h21 => ?_)
      · skip
        have g3 : 600 ≤ j := (pm_nle (a := 600) (b := j) (by omega) (by omega)).mp h21
        have h9 : ¬ (0 ≤ nI j ∧ (nI j).toInt < min (az_a Z 9) 600) := fun z => by rw [nI_toInt hj] at z; omega
        refine pm_iconst (v := (-1)) dX7_out_33 (by decide) ?_
        subst hQ9
        refine pm_iret dX7_out_34 ?_
        first
        | exact ⟨(if_neg h9).symm, A9, M2, hA2, hA1, hm2, hr2⟩
        | exact ⟨by rw [if_pos h9, nI_toInt hj, Int.toNat_natCast], A9, M2, hA2, hA1, hm2, hr2⟩
      · skip
        have g3 : j < 600 := by rcases Nat.lt_or_ge j 600 with y | y; exact y; exact absurd ((pm_nle (a := 600) (b := j) (by omega) (by omega)).mpr y) h21
        have h9 : 0 ≤ nI j ∧ (nI j).toInt < min (az_a Z 9) 600 := ⟨g1, by rw [nI_toInt hj]; omega⟩
        refine pm_aload_n dX7_out_24 rfl ?_
        refine pm_g_Model_out hm2.1 pm_f_X7_99 (hm2.2.1 34 (by decide)).1 dX7_out_25 ?_
        refine pm_iload_n dX7_out_28 rfl ?_
        refine mm_iaload (n := _) hm2 (by decide) rfl (by show _ < 600; omega) dX7_out_29 ?_
        rw [hr2.2.2.2.2.2.2.2.2.1.2 j g3 g2]
        refine pm_goto (tgt := 34) dX7_out_30 (by decide) ?_
        subst hQ9
        refine pm_iret dX7_out_34 ?_
        first
        | exact ⟨(if_neg h9).symm, A9, M2, hA2, hA1, hm2, hr2⟩
        | exact ⟨by rw [if_pos h9, nI_toInt hj, Int.toNat_natCast], A9, M2, hA2, hA1, hm2, hr2⟩

set_option maxHeartbeats 4000000 in
set_option maxRecDepth 100000 in
theorem c_X7_register (G : pm_G) (l : Launch) (bs : Nat) (A : Nat → Nat) (E : pm_S) (M : pm_N) (b : Nat) (Z : az) (s : Nat) (q j : Nat) (i : Int32) (S : pm_S) (hm : pm_MX M S A E) (hr : mR b Z M) (hI : zI s Z) (hq : q < az_a Z 0) (hj : j < 9) : pm_M G l bs yX7_register cX7_register 4 (some .int) 2 0 0 [.ref (A 50), .int (nI (q + 1)), .int (nI j), .int i] S (pm_qi (fun x S2 => x = zReg Z q j i ∧ ∃ A2 M2, (∀ i, i ≠ 60 → A2 i = A i) ∧ A2 60 = 0 ∧ pm_MX M2 S2 A2 E ∧ mR b Z M2)) := by
  have hn := hI.1
  have hsm := hI.sm
  have h9b := hI.b9
  refine pm_Mi (L := [.ref (A 50), .int (nI (q + 1)), .int (nI j), .int i]) (by decide +kernel) rfl (pm_en_1 rfl (pm_en_1 rfl (pm_en_1 rfl (pm_en_1 rfl (pm_en_0 rfl))))) ?_
  generalize hQ9 : pm_xi (fun x S2 => x = zReg Z q j i ∧ ∃ A2 M2, (∀ i, i ≠ 60 → A2 i = A i) ∧ A2 60 = 0 ∧ pm_MX M2 S2 A2 E ∧ mR b Z M2) = Q9
  refine pm_aload_n dX7_register_0 rfl ?_
  refine pm_aload_n dX7_register_1 rfl ?_
  refine pm_iload_n dX7_register_2 rfl ?_
  refine pm_vi (c_X7_isProcess G l bs A E M (nI (q + 1)) _ hm) pm_y_X7_isProcess pm_v_X7_isProcess pm_m_X7_143 (c := 7) (r := (RX7, TX7, 41)) rfl rfl hm.1 dX7_register_3 rfl rfl (by decide) (Nat.le_of_ble_eq_true rfl) (fun x3 S3 h3 => ?_)
  obtain ⟨e3, rfl⟩ := h3
  rw [hr.A (i := 0) rfl, if_pos ⟨(pm_nle (a := 1) (b := q + 1) (by omega) (by omega)).mpr (by omega), (pm_nle (a := q + 1) (b := az_a Z 0) (by omega) (by omega)).mpr (by omega)⟩] at e3
  subst e3
  refine pm_if_eq (tgt := 19) dX7_register_6 (by decide) (fun h6 => ?_) (fun h6 => ?_)
  · exact absurd h6 (by decide)
  · skip
    skip
    refine pm_iload_n dX7_register_9 rfl ?_
    refine pm_iconst (v := 0) dX7_register_10 (by decide) ?_
    refine pm_bipush (v := 8) dX7_register_11 (by decide) ?_
    refine pm_ssi (c_X7_within G l bs (nI j) 0 8 _) pm_y_X7_within pm_s_X7_within pm_m_X7_110 dX7_register_13 rfl rfl (by decide) (Nat.le_of_ble_eq_true rfl) (fun x13 S13 h13 => ?_)
    obtain ⟨e13, rfl⟩ := h13
    rw [if_pos ⟨nI_pos' (by omega), (pm_nle (a := j) (b := 8) (by omega) (by omega)).mpr (by omega)⟩] at e13
    subst e13
    refine pm_if_ne (tgt := 23) dX7_register_16 (by decide) (fun h16 => ?_) (fun h16 => ?_)
    · skip
      skip
      refine pm_iconst (v := 0) dX7_register_23 (by decide) ?_
      refine pm_iconst (v := 1) dX7_register_24 (by decide) ?_
      refine pm_vi (c_X7_fails G l bs A E M 0 1 _ hm (Or.inl rfl)) pm_y_X7_fails pm_v_X7_fails pm_m_X7_114 (c := 7) (r := (RX7, TX7, 41)) rfl rfl hm.1 dX7_register_25 rfl rfl (by decide) (Nat.le_of_ble_eq_true rfl) (fun x25 S25 h25 => ?_)
      obtain ⟨rfl, hm25⟩ := h25
      have hr25 := hr.thr (v := nI (if (0 : Int32) = 0 then 0 else 1))
      have hB1 : aT A (if (0 : Int32) = 0 then 0 else 1) 60 = 0 := rfl
      have hB2 : ∀ i, i ≠ 60 → aT A (if (0 : Int32) = 0 then 0 else 1) i = A i := fun i hi => if_neg hi
      rw [← (aT_o (A := A) (v := (if (0 : Int32) = 0 then 0 else 1)) (i := 50) (by decide))]
      generalize aT A (if (0 : Int32) = 0 then 0 else 1) = A9 at hm25 hB1 hB2 ⊢
      have hA1 := hB1
      have hA2 := hB2
      generalize mi M 40 (nI (if (0 : Int32) = 0 then 0 else 1)) = M25 at hm25 hr25
      refine pm_if_eq (tgt := 33) dX7_register_28 (by decide) (fun h28 => ?_) (fun h28 => ?_)
      · skip
        skip
        refine pm_iload_n dX7_register_33 rfl ?_
        refine pm_bipush (v := 8) dX7_register_34 (by decide) ?_
        refine pm_icmp_ge (tgt := 53) dX7_register_36 (by decide) (fun h36 => ?_) (fun h36 => ?_)
        · skip
          have h8 : ¬ j < 8 := by have := (pm_nle (a := 8) (b := j) (by omega) (by omega)).mp h36; omega
          refine pm_aload_n dX7_register_53 rfl ?_
          refine pm_g_Model_state hm25.1 pm_f_X7_29 (hm25.2.1 6 (by decide)).1 dX7_register_54 ?_
          refine pm_iload_n dX7_register_57 rfl ?_
          refine pm_iconst (v := 1) dX7_register_58 (by decide) ?_
          refine pm_isub dX7_register_59 ?_
          refine mm_iaload (n := _) hm25 (by decide) (nI_pred q) (by show _ < 60; omega) dX7_register_60 ?_
          refine pm_iconst (v := 2) dX7_register_61 (by decide) ?_
          rw [hr25.B (i := 1) hq rfl]
          refine pm_icmp_ne (tgt := 80) dX7_register_62 (by decide) (fun h62 => ?_) (fun h62 => ?_)
          · skip
            have g1 : ¬ az_b Z 1 q = 2 := fun z => h62 ((pm_e2 (hsm q hq 1 (by decide))).mpr z)
            refine pm_iconst (v := (-1)) dX7_register_80 (by decide) ?_
            subst hQ9
            refine pm_iret dX7_register_81 ?_
            first
            | exact ⟨by unfold zReg; rw [if_neg h8, if_neg g1], A9, M25, hA2, hA1, hm25, hr25⟩
            | exact ⟨by unfold zReg; rw [if_neg h8, if_pos g1], A9, M25, hA2, hA1, hm25, hr25⟩
          · skip
            have g1 : az_b Z 1 q = 2 := (pm_e2 (hsm q hq 1 (by decide))).mp h62
            refine pm_aload_n dX7_register_65 rfl ?_
            refine pm_sipush (v := 2880) dX7_register_66 (by decide) ?_
            refine pm_iload_n dX7_register_69 rfl ?_
            refine pm_iadd dX7_register_70 ?_
            refine pm_iconst (v := 1) dX7_register_71 (by decide) ?_
            refine pm_isub dX7_register_72 ?_
            refine pm_iload_n dX7_register_73 rfl ?_
            rw [show (2880 : Int32) + nI (q + 1) - 1 = nI (2880 + q) from by rw [show (2880 : Int32) = nI 2880 from rfl, nI_add, show 2880 + (q + 1) = 2880 + q + 1 from rfl, nI_pred]]
            refine pm_vi (c_X7_numberOf G l bs A9 E M25 (2880 + q) (az_t Z 1 q 0) i _ hm25 (by omega) ((hr25.2.2.2.2.2.2.2.2.2.2.1 q hq).2.2 g1)) pm_y_X7_numberOf pm_v_X7_numberOf pm_m_X7_273 (c := 7) (r := (RX7, TX7, 41)) rfl rfl hm25.1 dX7_register_74 rfl rfl (by decide) (Nat.le_of_ble_eq_true rfl) (fun x74 S74 h74 => ?_)
            obtain ⟨rfl, rfl⟩ := h74
            refine pm_goto (tgt := 81) dX7_register_77 (by decide) ?_
            subst hQ9
            refine pm_iret dX7_register_81 ?_
            first
            | exact ⟨by unfold zReg; rw [if_neg h8, if_neg g1], A9, M25, hA2, hA1, hm25, hr25⟩
            | exact ⟨by unfold zReg; rw [if_neg h8, if_pos g1], A9, M25, hA2, hA1, hm25, hr25⟩
        · skip
          have h8 : j < 8 := by rcases Nat.lt_or_ge (j) (8) with y | y; exact y; exact absurd ((pm_nle (a := 8) (b := j) (by omega) (by omega)).mpr y) h36
          refine pm_aload_n dX7_register_39 rfl ?_
          refine pm_bipush (v := 8) dX7_register_40 (by decide) ?_
          refine pm_iload_n dX7_register_42 rfl ?_
          refine pm_iconst (v := 1) dX7_register_43 (by decide) ?_
          refine pm_isub dX7_register_44 ?_
          refine pm_imul dX7_register_45 ?_
          refine pm_iload_n dX7_register_46 rfl ?_
          refine pm_iadd dX7_register_47 ?_
          refine pm_iload_n dX7_register_48 rfl ?_
          rw [show nI (q + 1) - 1 = nI q from nI_pred q, show (8 : Int32) * nI q + nI j = nI (8 * q + j) from by rw [show (8 : Int32) = nI 8 from rfl, pk_mul, nI_add]]
          refine pm_vi (c_X7_numberOf G l bs A9 E M25 (8 * q + j) (az_t Z 0 q j) i _ hm25 (by omega) (hr25.G hq h8)) pm_y_X7_numberOf pm_v_X7_numberOf pm_m_X7_273 (c := 7) (r := (RX7, TX7, 41)) rfl rfl hm25.1 dX7_register_49 rfl rfl (by decide) (Nat.le_of_ble_eq_true rfl) (fun x49 S49 h49 => ?_)
          obtain ⟨rfl, rfl⟩ := h49
          subst hQ9
          refine pm_iret dX7_register_52 ?_
          exact ⟨by unfold zReg; rw [if_pos h8], A9, M25, hA2, hA1, hm25, hr25⟩
      · exact absurd rfl h28
    · exact absurd h16 (by decide)

set_option maxHeartbeats 4000000 in
set_option maxRecDepth 100000 in
theorem r_X7_register (G : pm_G) (l : Launch) (bs : Nat) (A : Nat → Nat) (E : pm_S) (M : pm_N) (b : Nat) (Z : az) (s : Nat) (x y i : Int32) (S : pm_S) (hm : pm_MX M S A E) (hr : mR b Z M) (hI : zI s Z) (hbad : ¬ ((1 ≤ x ∧ x ≤ nI (az_a Z 0)) ∧ (0 ≤ y ∧ y ≤ 8))) : pm_M G l bs yX7_register cX7_register 4 (some .int) 2 0 0 [.ref (A 50), .int x, .int y, .int i] S (pm_qi (fun x S2 => ∃ A2 M2, (∀ i, i ≠ 60 → A2 i = A i) ∧ A2 60 = 1 ∧ pm_MX M2 S2 A2 E ∧ mR b Z M2)) := by
  refine pm_Mi (L := [.ref (A 50), .int x, .int y, .int i]) (by decide +kernel) rfl (pm_en_1 rfl (pm_en_1 rfl (pm_en_1 rfl (pm_en_1 rfl (pm_en_0 rfl))))) ?_
  generalize hQ9 : pm_xi (fun x S2 => ∃ A2 M2, (∀ i, i ≠ 60 → A2 i = A i) ∧ A2 60 = 1 ∧ pm_MX M2 S2 A2 E ∧ mR b Z M2) = Q9
  refine pm_aload_n dX7_register_0 rfl ?_
  refine pm_aload_n dX7_register_1 rfl ?_
  refine pm_iload_n dX7_register_2 rfl ?_
  refine pm_vi (c_X7_isProcess G l bs A E M x _ hm) pm_y_X7_isProcess pm_v_X7_isProcess pm_m_X7_143 (c := 7) (r := (RX7, TX7, 41)) rfl rfl hm.1 dX7_register_3 rfl rfl (by decide) (Nat.le_of_ble_eq_true rfl) (fun x3 S3 h3 => ?_)
  obtain ⟨e3, rfl⟩ := h3
  rw [hr.A (i := 0) rfl] at e3
  subst e3
  refine pm_if_eq (tgt := 19) dX7_register_6 (by decide) (fun h6 => ?_) (fun h6 => ?_)
  · skip
    skip
    refine pm_iconst (v := 1) dX7_register_19 (by decide) ?_
    refine pm_goto (tgt := 24) dX7_register_20 (by decide) ?_
    refine pm_iconst (v := 1) dX7_register_24 (by decide) ?_
    refine pm_vi (c_X7_fails G l bs A E M 1 1 _ hm (Or.inr rfl)) pm_y_X7_fails pm_v_X7_fails pm_m_X7_114 (c := 7) (r := (RX7, TX7, 41)) rfl rfl hm.1 dX7_register_25 rfl rfl (by decide) (Nat.le_of_ble_eq_true rfl) (fun x25 S25 h25 => ?_)
    obtain ⟨rfl, hm25⟩ := h25
    have hr25 := hr.thr (v := nI (if (1 : Int32) = 0 then 0 else 1))
    have hB1 : aT A (if (1 : Int32) = 0 then 0 else 1) 60 = 1 := rfl
    have hB2 : ∀ i, i ≠ 60 → aT A (if (1 : Int32) = 0 then 0 else 1) i = A i := fun i hi => if_neg hi
    rw [← (aT_o (A := A) (v := (if (1 : Int32) = 0 then 0 else 1)) (i := 50) (by decide))]
    generalize aT A (if (1 : Int32) = 0 then 0 else 1) = A9 at hm25 hB1 hB2 ⊢
    have hA1 := hB1
    have hA2 := hB2
    generalize mi M 40 (nI (if (1 : Int32) = 0 then 0 else 1)) = M25 at hm25 hr25
    refine pm_if_eq (tgt := 33) dX7_register_28 (by decide) (fun h28 => ?_) (fun h28 => ?_)
    · exact absurd h28 (by decide)
    · skip
      skip
      refine pm_iconst (v := 0) dX7_register_31 (by decide) ?_
      subst hQ9
      refine pm_iret dX7_register_32 ?_
      exact ⟨A9, _, hA2, hA1, hm25, hr25⟩
  · skip
    have g1 : 1 ≤ x ∧ x ≤ nI (az_a Z 0) := Classical.byContradiction (fun z => h6 (if_neg z))
    refine pm_iload_n dX7_register_9 rfl ?_
    refine pm_iconst (v := 0) dX7_register_10 (by decide) ?_
    refine pm_bipush (v := 8) dX7_register_11 (by decide) ?_
    refine pm_ssi (c_X7_within G l bs y 0 8 _) pm_y_X7_within pm_s_X7_within pm_m_X7_110 dX7_register_13 rfl rfl (by decide) (Nat.le_of_ble_eq_true rfl) (fun x13 S13 h13 => ?_)
    obtain ⟨rfl, rfl⟩ := h13
    refine pm_if_ne (tgt := 23) dX7_register_16 (by decide) (fun h16 => ?_) (fun h16 => ?_)
    · exact absurd ⟨g1, Classical.byContradiction (fun z => h16 (if_neg z))⟩ hbad
    · skip
      skip
      refine pm_iconst (v := 1) dX7_register_19 (by decide) ?_
      refine pm_goto (tgt := 24) dX7_register_20 (by decide) ?_
      refine pm_iconst (v := 1) dX7_register_24 (by decide) ?_
      refine pm_vi (c_X7_fails G l bs A E M 1 1 _ hm (Or.inr rfl)) pm_y_X7_fails pm_v_X7_fails pm_m_X7_114 (c := 7) (r := (RX7, TX7, 41)) rfl rfl hm.1 dX7_register_25 rfl rfl (by decide) (Nat.le_of_ble_eq_true rfl) (fun x25 S25 h25 => ?_)
      obtain ⟨rfl, hm25⟩ := h25
      have hr25 := hr.thr (v := nI (if (1 : Int32) = 0 then 0 else 1))
      have hB1 : aT A (if (1 : Int32) = 0 then 0 else 1) 60 = 1 := rfl
      have hB2 : ∀ i, i ≠ 60 → aT A (if (1 : Int32) = 0 then 0 else 1) i = A i := fun i hi => if_neg hi
      rw [← (aT_o (A := A) (v := (if (1 : Int32) = 0 then 0 else 1)) (i := 50) (by decide))]
      generalize aT A (if (1 : Int32) = 0 then 0 else 1) = A9 at hm25 hB1 hB2 ⊢
      have hA1 := hB1
      have hA2 := hB2
      generalize mi M 40 (nI (if (1 : Int32) = 0 then 0 else 1)) = M25 at hm25 hr25
      refine pm_if_eq (tgt := 33) dX7_register_28 (by decide) (fun h28 => ?_) (fun h28 => ?_)
      · exact absurd h28 (by decide)
      · skip
        skip
        refine pm_iconst (v := 0) dX7_register_31 (by decide) ?_
        subst hQ9
        refine pm_iret dX7_register_32 ?_
        exact ⟨A9, _, hA2, hA1, hm25, hr25⟩

set_option maxHeartbeats 4000000 in
set_option maxRecDepth 100000 in
theorem c_X7_message (G : pm_G) (l : Launch) (bs : Nat) (A : Nat → Nat) (E : pm_S) (M : pm_N) (b : Nat) (Z : az) (s : Nat) (q : Nat) (k i : Int32) (S : pm_S) (hm : pm_MX M S A E) (hr : mR b Z M) (hI : zI s Z) (hq : q < az_a Z 0) : pm_M G l bs yX7_message cX7_message 4 (some .int) 2 0 0 [.ref (A 50), .int (nI (q + 1)), .int k, .int i] S (pm_qi (fun x S2 => x = zMsg Z q k i ∧ ∃ A2 M2, (∀ i, i ≠ 60 → A2 i = A i) ∧ A2 60 = 0 ∧ pm_MX M2 S2 A2 E ∧ mR b Z M2)) := by
  have hn := hI.1
  have hsm := hI.sm
  have h9b := hI.b9
  have b9 := h9b q hq
  have hkm : (0 ≤ k ∧ k ≤ nI (az_b Z 9 q) - 1) ↔ (0 ≤ k ∧ k.toInt < az_b Z 9 q) := by
    refine ⟨fun z => ⟨z.1, ?_⟩, fun z => ⟨z.1, ?_⟩⟩
    · have z2 := Int32.le_iff_toInt_le.mp z.2
      have z1 : 0 ≤ k.toInt := Int32.le_iff_toInt_le.mp z.1
      rw [show (1 : Int32) = nI 1 from rfl, pk_sub_toInt (by omega) (by omega)] at z2
      omega
    · refine Int32.le_iff_toInt_le.mpr ?_
      rw [show (1 : Int32) = nI 1 from rfl, pk_sub_toInt (by omega) (by omega)]
      have := z.2
      omega
  refine pm_Mi (L := [.ref (A 50), .int (nI (q + 1)), .int k, .int i]) (by decide +kernel) rfl (pm_en_1 rfl (pm_en_1 rfl (pm_en_1 rfl (pm_en_1 rfl (pm_en_0 rfl))))) ?_
  generalize hQ9 : pm_xi (fun x S2 => x = zMsg Z q k i ∧ ∃ A2 M2, (∀ i, i ≠ 60 → A2 i = A i) ∧ A2 60 = 0 ∧ pm_MX M2 S2 A2 E ∧ mR b Z M2) = Q9
  refine pm_aload_n dX7_message_0 rfl ?_
  refine pm_aload_n dX7_message_1 rfl ?_
  refine pm_iload_n dX7_message_2 rfl ?_
  refine pm_vi (c_X7_isProcess G l bs A E M (nI (q + 1)) _ hm) pm_y_X7_isProcess pm_v_X7_isProcess pm_m_X7_143 (c := 7) (r := (RX7, TX7, 41)) rfl rfl hm.1 dX7_message_3 rfl rfl (by decide) (Nat.le_of_ble_eq_true rfl) (fun x3 S3 h3 => ?_)
  obtain ⟨e3, rfl⟩ := h3
  rw [hr.A (i := 0) rfl, if_pos ⟨(pm_nle (a := 1) (b := q + 1) (by omega) (by omega)).mpr (by omega), (pm_nle (a := q + 1) (b := az_a Z 0) (by omega) (by omega)).mpr (by omega)⟩] at e3
  subst e3
  refine pm_if_ne (tgt := 13) dX7_message_6 (by decide) (fun h6 => ?_) (fun h6 => ?_)
  · skip
    skip
    refine pm_iconst (v := 0) dX7_message_13 (by decide) ?_
    refine pm_iconst (v := 1) dX7_message_14 (by decide) ?_
    refine pm_vi (c_X7_fails G l bs A E M 0 1 _ hm (Or.inl rfl)) pm_y_X7_fails pm_v_X7_fails pm_m_X7_114 (c := 7) (r := (RX7, TX7, 41)) rfl rfl hm.1 dX7_message_15 rfl rfl (by decide) (Nat.le_of_ble_eq_true rfl) (fun x15 S15 h15 => ?_)
    obtain ⟨rfl, hm15⟩ := h15
    have hr15 := hr.thr (v := nI (if (0 : Int32) = 0 then 0 else 1))
    have hB1 : aT A (if (0 : Int32) = 0 then 0 else 1) 60 = 0 := rfl
    have hB2 : ∀ i, i ≠ 60 → aT A (if (0 : Int32) = 0 then 0 else 1) i = A i := fun i hi => if_neg hi
    rw [← (aT_o (A := A) (v := (if (0 : Int32) = 0 then 0 else 1)) (i := 50) (by decide))]
    generalize aT A (if (0 : Int32) = 0 then 0 else 1) = A9 at hm15 hB1 hB2 ⊢
    have hA1 := hB1
    have hA2 := hB2
    generalize mi M 40 (nI (if (0 : Int32) = 0 then 0 else 1)) = M15 at hm15 hr15
    refine pm_if_eq (tgt := 23) dX7_message_18 (by decide) (fun h18 => ?_) (fun h18 => ?_)
    · skip
      skip
      refine pm_iload_n dX7_message_23 rfl ?_
      refine pm_iconst (v := 0) dX7_message_24 (by decide) ?_
      refine pm_aload_n dX7_message_25 rfl ?_
      refine pm_g_Model_mail hm15.1 pm_f_X7_45 (hm15.2.1 11 (by decide)).1 dX7_message_26 ?_
      refine pm_iload_n dX7_message_29 rfl ?_
      refine pm_iconst (v := 1) dX7_message_30 (by decide) ?_
      refine pm_isub dX7_message_31 ?_
      refine mm_iaload (n := _) hm15 (by decide) (nI_pred q) (by show _ < 60; omega) dX7_message_32 ?_
      rw [hr15.B (i := 9) hq rfl]
      refine pm_iconst (v := 1) dX7_message_33 (by decide) ?_
      refine pm_isub dX7_message_34 ?_
      refine pm_ssi (c_X7_within G l bs k 0 (nI (az_b Z 9 q) - 1) _) pm_y_X7_within pm_s_X7_within pm_m_X7_110 dX7_message_35 rfl rfl (by decide) (Nat.le_of_ble_eq_true rfl) (fun x35 S35 h35 => ?_)
      obtain ⟨rfl, rfl⟩ := h35
      refine pm_if_eq (tgt := 61) dX7_message_38 (by decide) (fun h38 => ?_) (fun h38 => ?_)
      · skip
        have g1 : ¬ (0 ≤ k ∧ k.toInt < az_b Z 9 q) := fun z => by rw [if_pos (hkm.mpr z)] at h38; cases h38
        refine pm_iconst (v := (-1)) dX7_message_61 (by decide) ?_
        subst hQ9
        refine pm_iret dX7_message_62 ?_
        first
        | exact ⟨by unfold zMsg; rw [if_neg g1], A9, M15, hA2, hA1, hm15, hr15⟩
        | exact ⟨by unfold zMsg; rw [if_pos g1, nI_toInt hj, Int.toNat_natCast], A9, M15, hA2, hA1, hm15, hr15⟩
      · skip
        have g1 : 0 ≤ k ∧ k.toInt < az_b Z 9 q := hkm.mp (Classical.byContradiction (fun z => h38 (if_neg z)))
        obtain ⟨j, hj, rfl⟩ := nI_of (Int32.not_lt.mpr g1.1)
        have g2 : j < az_b Z 9 q := by have := g1.2; rw [nI_toInt hj] at this; omega
        refine pm_aload_n dX7_message_41 rfl ?_
        refine pm_sipush (v := 480) dX7_message_42 (by decide) ?_
        refine pm_bipush (v := 40) dX7_message_45 (by decide) ?_
        refine pm_iload_n dX7_message_47 rfl ?_
        refine pm_iconst (v := 1) dX7_message_48 (by decide) ?_
        refine pm_isub dX7_message_49 ?_
        refine pm_imul dX7_message_50 ?_
        refine pm_iadd dX7_message_51 ?_
        refine pm_iload_n dX7_message_52 rfl ?_
        refine pm_iadd dX7_message_53 ?_
        refine pm_iload_n dX7_message_54 rfl ?_
        rw [show nI (q + 1) - 1 = nI q from nI_pred q, show (480 : Int32) + 40 * nI q + nI j = nI (480 + 40 * q + j) from by rw [show (480 : Int32) = nI 480 from rfl, show (40 : Int32) = nI 40 from rfl, pk_mul, nI_add, nI_add]]
        refine pm_vi (c_X7_numberOf G l bs A9 E M15 (480 + 40 * q + j) (az_t Z 2 q j) i _ hm15 (by omega) ((hr15.2.2.2.2.2.2.2.2.2.2.1 q hq).2.1 j g2)) pm_y_X7_numberOf pm_v_X7_numberOf pm_m_X7_273 (c := 7) (r := (RX7, TX7, 41)) rfl rfl hm15.1 dX7_message_55 rfl rfl (by decide) (Nat.le_of_ble_eq_true rfl) (fun x55 S55 h55 => ?_)
        obtain ⟨rfl, rfl⟩ := h55
        refine pm_goto (tgt := 62) dX7_message_58 (by decide) ?_
        subst hQ9
        refine pm_iret dX7_message_62 ?_
        first
        | exact ⟨by unfold zMsg; rw [if_neg g1], A9, M15, hA2, hA1, hm15, hr15⟩
        | exact ⟨by unfold zMsg; rw [if_pos g1, nI_toInt hj, Int.toNat_natCast], A9, M15, hA2, hA1, hm15, hr15⟩
    · exact absurd rfl h18
  · exact absurd h6 (by decide)

set_option maxHeartbeats 4000000 in
set_option maxRecDepth 100000 in
theorem r_X7_message (G : pm_G) (l : Launch) (bs : Nat) (A : Nat → Nat) (E : pm_S) (M : pm_N) (b : Nat) (Z : az) (s : Nat) (x k i : Int32) (S : pm_S) (hm : pm_MX M S A E) (hr : mR b Z M) (hI : zI s Z) (hbad : ¬ (1 ≤ x ∧ x ≤ nI (az_a Z 0))) : pm_M G l bs yX7_message cX7_message 4 (some .int) 2 0 0 [.ref (A 50), .int x, .int k, .int i] S (pm_qi (fun x S2 => ∃ A2 M2, (∀ i, i ≠ 60 → A2 i = A i) ∧ A2 60 = 1 ∧ pm_MX M2 S2 A2 E ∧ mR b Z M2)) := by
  refine pm_Mi (L := [.ref (A 50), .int x, .int k, .int i]) (by decide +kernel) rfl (pm_en_1 rfl (pm_en_1 rfl (pm_en_1 rfl (pm_en_1 rfl (pm_en_0 rfl))))) ?_
  generalize hQ9 : pm_xi (fun x S2 => ∃ A2 M2, (∀ i, i ≠ 60 → A2 i = A i) ∧ A2 60 = 1 ∧ pm_MX M2 S2 A2 E ∧ mR b Z M2) = Q9
  refine pm_aload_n dX7_message_0 rfl ?_
  refine pm_aload_n dX7_message_1 rfl ?_
  refine pm_iload_n dX7_message_2 rfl ?_
  refine pm_vi (c_X7_isProcess G l bs A E M x _ hm) pm_y_X7_isProcess pm_v_X7_isProcess pm_m_X7_143 (c := 7) (r := (RX7, TX7, 41)) rfl rfl hm.1 dX7_message_3 rfl rfl (by decide) (Nat.le_of_ble_eq_true rfl) (fun x3 S3 h3 => ?_)
  obtain ⟨e3, rfl⟩ := h3
  rw [hr.A (i := 0) rfl] at e3
  subst e3
  refine pm_if_ne (tgt := 13) dX7_message_6 (by decide) (fun h6 => ?_) (fun h6 => ?_)
  · exact absurd (Classical.byContradiction (fun z => h6 (if_neg z))) hbad
  · skip
    skip
    refine pm_iconst (v := 1) dX7_message_9 (by decide) ?_
    refine pm_goto (tgt := 14) dX7_message_10 (by decide) ?_
    refine pm_iconst (v := 1) dX7_message_14 (by decide) ?_
    refine pm_vi (c_X7_fails G l bs A E M 1 1 _ hm (Or.inr rfl)) pm_y_X7_fails pm_v_X7_fails pm_m_X7_114 (c := 7) (r := (RX7, TX7, 41)) rfl rfl hm.1 dX7_message_15 rfl rfl (by decide) (Nat.le_of_ble_eq_true rfl) (fun x15 S15 h15 => ?_)
    obtain ⟨rfl, hm15⟩ := h15
    have hr15 := hr.thr (v := nI (if (1 : Int32) = 0 then 0 else 1))
    have hB1 : aT A (if (1 : Int32) = 0 then 0 else 1) 60 = 1 := rfl
    have hB2 : ∀ i, i ≠ 60 → aT A (if (1 : Int32) = 0 then 0 else 1) i = A i := fun i hi => if_neg hi
    rw [← (aT_o (A := A) (v := (if (1 : Int32) = 0 then 0 else 1)) (i := 50) (by decide))]
    generalize aT A (if (1 : Int32) = 0 then 0 else 1) = A9 at hm15 hB1 hB2 ⊢
    have hA1 := hB1
    have hA2 := hB2
    generalize mi M 40 (nI (if (1 : Int32) = 0 then 0 else 1)) = M15 at hm15 hr15
    refine pm_if_eq (tgt := 23) dX7_message_18 (by decide) (fun h18 => ?_) (fun h18 => ?_)
    · exact absurd h18 (by decide)
    · skip
      skip
      refine pm_iconst (v := 0) dX7_message_21 (by decide) ?_
      subst hQ9
      refine pm_iret dX7_message_22 ?_
      exact ⟨A9, _, hA2, hA1, hm15, hr15⟩

