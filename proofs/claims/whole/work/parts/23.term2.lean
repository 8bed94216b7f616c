/-! comparing, parts, the messages of exit and down -/
theorem pm_minI {a b : Nat} (ha : a < 2 ^ 31) (hb : b < 2 ^ 31) : (if nI a ≤ nI b then nI a else nI b) = nI (min a b) := by
  by_cases h : a ≤ b
  · rw [if_pos ((nI_leI ha hb).mpr h), Nat.min_eq_left h]
  · rw [if_neg (fun z => h ((nI_leI ha hb).mp z)), Nat.min_eq_right (by omega)]
set_option maxHeartbeats 4000000 in
set_option maxRecDepth 100000 in
theorem c_X3_compareWith (G : pm_G) (l : Launch) (bs : Nat) (t1 r1 t2 r2 : Nat) (u w : List Int32) (S : pm_S) (h1 : pm_tm S t1 r1 u) (h2 : pm_tm S t2 r2 w) : pm_M G l bs yX3_compareWith cX3_compareWith 6 (some .int) 1 0 0 [.ref t1, .ref t2] S (pm_qi (fun x S2 => x = tl_c 95 u w (min u.length w.length) 0 ∧ S2 = S)) := by
  obtain ⟨⟨hk1, hp1, hkr1, hnr1⟩, hlen1, hle1, hx1⟩ := h1
  obtain ⟨⟨hk2, hp2, hkr2, hnr2⟩, hlen2, hle2, hx2⟩ := h2
  have g1 : ∀ i, i < u.length → u.getD i 0 = pm_x S r1 i := fun i hi => by rw [List.getD_eq_getElem?_getD, hx1 i hi]; rfl
  have g2 : ∀ i, i < w.length → w.getD i 0 = pm_x S r2 i := fun i hi => by rw [List.getD_eq_getElem?_getD, hx2 i hi]; rfl
  refine pm_Mi (L := [.ref t1, .ref t2, pm_u, pm_u, pm_u, pm_u]) (by decide +kernel) rfl (pm_en_1 rfl (pm_en_1 rfl (pm_en_0 rfl))) ?_
  generalize hQ9 : pm_xi (fun x S2 => x = tl_c 95 u w (min u.length w.length) 0 ∧ S2 = S) = Q9
  have loop : ∀ (n k : Nat) (v4 v5 : Value), v4.category = 1 → 95 ≤ n + k → k ≤ 97 → tl_c n u w (min u.length w.length) k = tl_c 95 u w (min u.length w.length) 0 → pm_W G l bs yX3_compareWith.cls cX3_compareWith 6 false 1 0 0 Q9 14 [.ref t1, .ref t2, .int (nI (min u.length w.length)), .int (nI k), v4, v5] [] S := by
    intro n
    induction n using Nat.strongRecOn with
    | ind n ih =>
    intro k v4 v5 hv4 h1 h3 hq
    refine pm_iload_n dX3_compareWith_14 rfl ?_
    refine pm_iconst (v := 1) dX3_compareWith_15 (by decide) ?_
    refine pm_iadd dX3_compareWith_16 ?_
    refine pm_iload_n dX3_compareWith_17 rfl ?_
    rw [show nI k + 1 = nI (k + 1) from nI_1 _]
    refine pm_icmp_ge (tgt := 125) dX3_compareWith_18 (by decide) (fun h18 => ?_) (fun h18 => ?_)
    · skip
      have h8 : ¬ k + 1 < min u.length w.length := fun z => by have := (pm_nle (by omega) (by omega)).mp h18; omega
      refine pm_iconst (v := 0) dX3_compareWith_125 (by decide) ?_
      subst hQ9
      refine pm_iret dX3_compareWith_126 ?_
      exact ⟨by rw [← hq, tl_c_stop h8], rfl⟩
    · skip
      have h8 : k + 1 < min u.length w.length := by rcases Nat.lt_or_ge (k + 1) (min u.length w.length) with q | q; exact q; exact absurd ((pm_nle (by omega) (by omega)).mpr q) h18
      obtain ⟨m, rfl⟩ : ∃ m, n = m + 1 := ⟨n - 1, by omega⟩
      rw [tl_c, if_pos h8, g1 k (by omega), g1 (k + 1) (by omega), g2 k (by omega), g2 (k + 1) (by omega)] at hq
      refine pm_aload_n dX3_compareWith_21 rfl ?_
      refine pm_g_Term_row (by (try simp only [pm_k_si, pm_k_sj, pm_k_sp, pm_k_sx, pm_k_sz, pm_k_sr, pm_k_sy]); assumption) pm_f_X3_11 (by (try simp only [pm_p_si, pm_p_sj, pm_p_sx, pm_p_sz, pm_p_sr, pm_p_sy]); assumption) dX3_compareWith_22 ?_
      refine pm_iload_n dX3_compareWith_25 rfl ?_
      refine pm_iaload (n := k) (by (try simp only [pm_k_si, pm_k_sj, pm_k_sp, pm_k_sx, pm_k_sz, pm_k_sr, pm_k_sy]); assumption) rfl (by first | omega | (simp only [pm_n_sx, pm_n_si, pm_n_sr, pm_n_sz, pm_n_sp, pm_n_sj, pm_n_sy]; omega)) (by first | omega | (simp only [pm_n_sx, pm_n_si, pm_n_sr, pm_n_sz, pm_n_sp, pm_n_sj, pm_n_sy]; omega)) dX3_compareWith_26 ?_
      refine pm_ssi (c_X3_kindOf G l bs _ _) pm_y_X3_kindOf pm_s_X3_kindOf pm_m_X3_19 dX3_compareWith_27 rfl rfl (by decide) (Nat.le_of_ble_eq_true rfl) (fun x27 S27 h27 => ?_)
      obtain ⟨rfl, hs27⟩ := h27
      subst hs27
      refine pm_istore dX3_compareWith_30 (by decide) ?_
      dsimp only [List.set]
      refine pm_aload_n dX3_compareWith_32 rfl ?_
      refine pm_g_Term_row (by (try simp only [pm_k_si, pm_k_sj, pm_k_sp, pm_k_sx, pm_k_sz, pm_k_sr, pm_k_sy]); assumption) pm_f_X3_11 (by (try simp only [pm_p_si, pm_p_sj, pm_p_sx, pm_p_sz, pm_p_sr, pm_p_sy]); assumption) dX3_compareWith_33 ?_
      refine pm_iload_n dX3_compareWith_36 rfl ?_
      refine pm_iaload (n := k) (by (try simp only [pm_k_si, pm_k_sj, pm_k_sp, pm_k_sx, pm_k_sz, pm_k_sr, pm_k_sy]); assumption) rfl (by first | omega | (simp only [pm_n_sx, pm_n_si, pm_n_sr, pm_n_sz, pm_n_sp, pm_n_sj, pm_n_sy]; omega)) (by first | omega | (simp only [pm_n_sx, pm_n_si, pm_n_sr, pm_n_sz, pm_n_sp, pm_n_sj, pm_n_sy]; omega)) dX3_compareWith_37 ?_
      refine pm_ssi (c_X3_kindOf G l bs _ _) pm_y_X3_kindOf pm_s_X3_kindOf pm_m_X3_19 dX3_compareWith_38 rfl rfl (by decide) (Nat.le_of_ble_eq_true rfl) (fun x38 S38 h38 => ?_)
      obtain ⟨rfl, hs38⟩ := h38
      subst hs38
      refine pm_istore dX3_compareWith_41 (by decide) ?_
      dsimp only [List.set]
      refine pm_iload dX3_compareWith_43 rfl ?_
      refine pm_iload dX3_compareWith_45 rfl ?_
      refine pm_icmp_eq (tgt := 63) dX3_compareWith_47 (by decide) (fun h47 => ?_) (fun h47 => ?_)
      · skip
        rw [if_pos h47] at hq
        refine pm_iload dX3_compareWith_63 rfl ?_
        refine pm_iconst (v := 3) dX3_compareWith_65 (by decide) ?_
        refine pm_icmp_ne (tgt := 75) dX3_compareWith_66 (by decide) (fun h66 => ?_) (fun h66 => ?_)
        · skip
          rw [if_neg h66] at hq
          refine pm_aload_n dX3_compareWith_75 rfl ?_
          refine pm_g_Term_row (by (try simp only [pm_k_si, pm_k_sj, pm_k_sp, pm_k_sx, pm_k_sz, pm_k_sr, pm_k_sy]); assumption) pm_f_X3_11 (by (try simp only [pm_p_si, pm_p_sj, pm_p_sx, pm_p_sz, pm_p_sr, pm_p_sy]); assumption) dX3_compareWith_76 ?_
          refine pm_iload_n dX3_compareWith_79 rfl ?_
          refine pm_iconst (v := 1) dX3_compareWith_80 (by decide) ?_
          refine pm_iadd dX3_compareWith_81 ?_
          refine pm_iaload (n := k + 1) (by (try simp only [pm_k_si, pm_k_sj, pm_k_sp, pm_k_sx, pm_k_sz, pm_k_sr, pm_k_sy]); assumption) (nI_1 _) (by first | omega | (simp only [pm_n_sx, pm_n_si, pm_n_sr, pm_n_sz, pm_n_sp, pm_n_sj, pm_n_sy]; omega)) (by first | omega | (simp only [pm_n_sx, pm_n_si, pm_n_sr, pm_n_sz, pm_n_sp, pm_n_sj, pm_n_sy]; omega)) dX3_compareWith_82 ?_
          refine pm_aload_n dX3_compareWith_83 rfl ?_
          refine pm_g_Term_row (by (try simp only [pm_k_si, pm_k_sj, pm_k_sp, pm_k_sx, pm_k_sz, pm_k_sr, pm_k_sy]); assumption) pm_f_X3_11 (by (try simp only [pm_p_si, pm_p_sj, pm_p_sx, pm_p_sz, pm_p_sr, pm_p_sy]); assumption) dX3_compareWith_84 ?_
          refine pm_iload_n dX3_compareWith_87 rfl ?_
          refine pm_iconst (v := 1) dX3_compareWith_88 (by decide) ?_
          refine pm_iadd dX3_compareWith_89 ?_
          refine pm_iaload (n := k + 1) (by (try simp only [pm_k_si, pm_k_sj, pm_k_sp, pm_k_sx, pm_k_sz, pm_k_sr, pm_k_sy]); assumption) (nI_1 _) (by first | omega | (simp only [pm_n_sx, pm_n_si, pm_n_sr, pm_n_sz, pm_n_sp, pm_n_sj, pm_n_sy]; omega)) (by first | omega | (simp only [pm_n_sx, pm_n_si, pm_n_sr, pm_n_sz, pm_n_sp, pm_n_sj, pm_n_sy]; omega)) dX3_compareWith_90 ?_
          refine pm_icmp_eq (tgt := 119) dX3_compareWith_91 (by decide) (fun h91 => ?_) (fun h91 => ?_)
          · skip
            rw [if_pos h91] at hq
            refine pm_iinc dX3_compareWith_119 rfl rfl (by decide) ?_
            dsimp only [List.set]
            refine pm_goto (tgt := 14) dX3_compareWith_122 (by decide) ?_
            first | (rw [show nI k + Int32.ofInt 1 = nI (k + 1) from nI_1 _]; exact ih m (by omega) (k + 1) _ _ rfl (by omega) (by omega) hq) | (rw [show nI k + Int32.ofInt 2 = nI (k + 2) from nI_add k 2]; exact ih m (by omega) (k + 2) _ _ rfl (by omega) (by omega) hq)
          · skip
            rw [if_neg h91] at hq
            refine pm_aload_n dX3_compareWith_94 rfl ?_
            refine pm_g_Term_row (by (try simp only [pm_k_si, pm_k_sj, pm_k_sp, pm_k_sx, pm_k_sz, pm_k_sr, pm_k_sy]); assumption) pm_f_X3_11 (by (try simp only [pm_p_si, pm_p_sj, pm_p_sx, pm_p_sz, pm_p_sr, pm_p_sy]); assumption) dX3_compareWith_95 ?_
            refine pm_iload_n dX3_compareWith_98 rfl ?_
            refine pm_iconst (v := 1) dX3_compareWith_99 (by decide) ?_
            refine pm_iadd dX3_compareWith_100 ?_
            refine pm_iaload (n := k + 1) (by (try simp only [pm_k_si, pm_k_sj, pm_k_sp, pm_k_sx, pm_k_sz, pm_k_sr, pm_k_sy]); assumption) (nI_1 _) (by first | omega | (simp only [pm_n_sx, pm_n_si, pm_n_sr, pm_n_sz, pm_n_sp, pm_n_sj, pm_n_sy]; omega)) (by first | omega | (simp only [pm_n_sx, pm_n_si, pm_n_sr, pm_n_sz, pm_n_sp, pm_n_sj, pm_n_sy]; omega)) dX3_compareWith_101 ?_
            refine pm_aload_n dX3_compareWith_102 rfl ?_
            refine pm_g_Term_row (by (try simp only [pm_k_si, pm_k_sj, pm_k_sp, pm_k_sx, pm_k_sz, pm_k_sr, pm_k_sy]); assumption) pm_f_X3_11 (by (try simp only [pm_p_si, pm_p_sj, pm_p_sx, pm_p_sz, pm_p_sr, pm_p_sy]); assumption) dX3_compareWith_103 ?_
            refine pm_iload_n dX3_compareWith_106 rfl ?_
            refine pm_iconst (v := 1) dX3_compareWith_107 (by decide) ?_
            refine pm_iadd dX3_compareWith_108 ?_
            refine pm_iaload (n := k + 1) (by (try simp only [pm_k_si, pm_k_sj, pm_k_sp, pm_k_sx, pm_k_sz, pm_k_sr, pm_k_sy]); assumption) (nI_1 _) (by first | omega | (simp only [pm_n_sx, pm_n_si, pm_n_sr, pm_n_sz, pm_n_sp, pm_n_sj, pm_n_sy]; omega)) (by first | omega | (simp only [pm_n_sx, pm_n_si, pm_n_sr, pm_n_sz, pm_n_sp, pm_n_sj, pm_n_sy]; omega)) dX3_compareWith_109 ?_
            refine pm_icmp_ge (tgt := 117) dX3_compareWith_110 (by decide) (fun h110 => ?_) (fun h110 => ?_)
            · skip
              rw [if_pos h110] at hq
              refine pm_iconst (v := 1) dX3_compareWith_117 (by decide) ?_
              subst hQ9
              refine pm_iret dX3_compareWith_118 ?_
              exact ⟨hq, rfl⟩
            · skip
              rw [if_neg h110] at hq
              refine pm_iconst (v := (-1)) dX3_compareWith_113 (by decide) ?_
              refine pm_goto (tgt := 118) dX3_compareWith_114 (by decide) ?_
              subst hQ9
              refine pm_iret dX3_compareWith_118 ?_
              exact ⟨hq, rfl⟩
        · skip
          rw [if_pos h66] at hq
          refine pm_iinc dX3_compareWith_69 rfl rfl (by decide) ?_
          dsimp only [List.set]
          refine pm_goto (tgt := 122) dX3_compareWith_72 (by decide) ?_
          refine pm_goto (tgt := 14) dX3_compareWith_122 (by decide) ?_
          first | (rw [show nI k + Int32.ofInt 1 = nI (k + 1) from nI_1 _]; exact ih m (by omega) (k + 1) _ _ rfl (by omega) (by omega) hq) | (rw [show nI k + Int32.ofInt 2 = nI (k + 2) from nI_add k 2]; exact ih m (by omega) (k + 2) _ _ rfl (by omega) (by omega) hq)
      · skip
        rw [if_neg h47] at hq
        refine pm_iload dX3_compareWith_50 rfl ?_
        refine pm_iload dX3_compareWith_52 rfl ?_
        refine pm_icmp_ge (tgt := 61) dX3_compareWith_54 (by decide) (fun h54 => ?_) (fun h54 => ?_)
        · skip
          rw [if_pos h54] at hq
          refine pm_iconst (v := 1) dX3_compareWith_61 (by decide) ?_
          subst hQ9
          refine pm_iret dX3_compareWith_62 ?_
          exact ⟨hq, rfl⟩
        · skip
          rw [if_neg h54] at hq
          refine pm_iconst (v := (-1)) dX3_compareWith_57 (by decide) ?_
          refine pm_goto (tgt := 62) dX3_compareWith_58 (by decide) ?_
          subst hQ9
          refine pm_iret dX3_compareWith_62 ?_
          exact ⟨hq, rfl⟩
  refine pm_aload_n dX3_compareWith_0 rfl ?_
  refine pm_g_Term_length (by (try simp only [pm_k_si, pm_k_sj, pm_k_sp, pm_k_sx, pm_k_sz, pm_k_sr, pm_k_sy]); assumption) pm_f_X3_15 dX3_compareWith_1 ?_
  refine pm_aload_n dX3_compareWith_4 rfl ?_
  refine pm_g_Term_length (by (try simp only [pm_k_si, pm_k_sj, pm_k_sp, pm_k_sx, pm_k_sz, pm_k_sr, pm_k_sy]); assumption) pm_f_X3_15 dX3_compareWith_5 ?_
  refine pm_ssi (c_J9_min G l bs _ _ S) pm_y_J9_min_7cf53 pm_s_J9_min_7cf53 pm_m_X3_44 dX3_compareWith_8 rfl rfl (by decide) (Nat.le_of_ble_eq_true rfl) (fun x8 S8 h8 => ?_)
  obtain ⟨rfl, rfl⟩ := h8
  rw [hlen1, hlen2, pm_minI (by omega) (by omega)]
  refine pm_istn dX3_compareWith_11 (i := 2) rfl (by decide) ?_
  dsimp only [List.set]
  refine pm_iconst (v := 0) dX3_compareWith_12 (by decide) ?_
  refine pm_istn dX3_compareWith_13 (i := 3) rfl (by decide) ?_
  dsimp only [List.set]
  exact loop 95 0 _ _ rfl (by omega) (by omega) rfl

theorem pm_kd3 {w : List Int32} {x : Int32} (h : w[0]?.map pm_kd = some x) (hk : ∀ y : Int32, w[0]? = some y → y = -1 ∨ y = 0 ∨ y = 1 ∨ y = 2) : x = 3 ↔ w[0]? = some (-1 : Int32) := by
  cases hw : w[0]? with
  | none => rw [hw] at h; cases h
  | some y =>
    rw [hw] at h
    have hy : pm_kd y = x := Option.some.inj h
    rcases hk y hw with rfl | rfl | rfl | rfl <;> subst hy <;> decide
set_option maxHeartbeats 4000000 in
set_option maxRecDepth 100000 in
theorem c_X3_setFirst (G : pm_G) (l : Launch) (bs : Nat) (t r t2 r2 : Nat) (w : List Int32) (S : pm_S) (ha : pm_to S t r) (hb : pm_tm S t2 r2 w) (hl : 0 < w.length) (hwk : ∀ y : Int32, w[0]? = some y → y = -1 ∨ y = 0 ∨ y = 1 ∨ y = 2) (he : 1 ≤ tl_e 95 w 1 1 ∧ tl_e 95 w 1 1 ≤ w.length) : pm_M G l bs yX3_setFirst cX3_setFirst 2 (some .boolean) 2 0 0 [.ref t, .ref t2] S (pm_qi (fun x S2 => (¬ w[0]? = some (-1 : Int32) ∧ x = 0 ∧ S2 = S) ∨ (w[0]? = some (-1 : Int32) ∧ x = 1 ∧ pm_ft S S2 t r ∧ pm_tm S2 t r ((w.drop (1)).take (tl_e 95 w 1 1 - 1))))) := by
  refine pm_Mz (L := [.ref t, .ref t2]) (by decide +kernel) rfl (pm_en_1 rfl (pm_en_1 rfl (pm_en_0 rfl))) ?_
  generalize hQ9 : pm_xz (fun x S2 => (¬ w[0]? = some (-1 : Int32) ∧ x = 0 ∧ S2 = S) ∨ (w[0]? = some (-1 : Int32) ∧ x = 1 ∧ pm_ft S S2 t r ∧ pm_tm S2 t r ((w.drop (1)).take (tl_e 95 w 1 1 - 1)))) = Q9
  refine pm_aload_n dX3_setFirst_0 rfl ?_
  refine pm_vi (c_X3_kind G l bs t2 r2 w S hb (by omega)) pm_y_X3_kind pm_v_X3_kind pm_m_X3_33 (c := 3) (r := (RX3, TX3, 2)) rfl rfl hb.1.1 dX3_setFirst_1 rfl rfl (by decide) (Nat.le_of_ble_eq_true rfl) (fun x1 S1 h1 => ?_)
  obtain ⟨e1, rfl⟩ := h1
  refine pm_iconst (v := 3) dX3_setFirst_4 (by decide) ?_
  refine pm_icmp_ne (tgt := 25) dX3_setFirst_5 (by decide) (fun h5 => ?_) (fun h5 => ?_)
  · skip
    have h9 : ¬ w[0]? = some (-1 : Int32) := fun z => h5 ((pm_kd3 e1 hwk).mpr z)
    refine pm_iconst (v := 0) dX3_setFirst_25 (by decide) ?_
    subst hQ9
    refine pm_zret dX3_setFirst_26 (by first | exact Or.inl rfl | exact Or.inr rfl | assumption) ?_
    first | exact Or.inr ⟨h9, rfl, hf, ht⟩ | exact Or.inl ⟨h9, rfl, rfl⟩
  · skip
    have h9 : w[0]? = some (-1 : Int32) := (pm_kd3 e1 hwk).mp h5
    refine pm_aload_n dX3_setFirst_8 rfl ?_
    refine pm_aload_n dX3_setFirst_9 rfl ?_
    refine pm_iconst (v := 1) dX3_setFirst_10 (by decide) ?_
    refine pm_aload_n dX3_setFirst_11 rfl ?_
    refine pm_vi (c_X3_endOfFirst G l bs t2 r2 w _ hb) pm_y_X3_endOfFirst pm_v_X3_endOfFirst pm_m_X3_37 (c := 3) (r := (RX3, TX3, 2)) rfl rfl hb.1.1 dX3_setFirst_12 rfl rfl (by decide) (Nat.le_of_ble_eq_true rfl) (fun x12 S12 h12 => ?_)
    obtain ⟨rfl, rfl⟩ := h12
    refine pm_vi (c_X3_setPart G l bs t r t2 r2 1 (tl_e 95 w 1 1) w _ ha hb (by omega) (by omega)) pm_y_X3_setPart pm_v_X3_setPart pm_m_X3_40 (c := 3) (r := (RX3, TX3, 2)) rfl rfl ha.1 dX3_setFirst_15 rfl rfl (by decide) (Nat.le_of_ble_eq_true rfl) (fun x15 S15 h15 => ?_)
    obtain ⟨rfl, hf, ht⟩ := h15
    refine pm_if_eq (tgt := 25) dX3_setFirst_18 (by decide) (fun h18 => ?_) (fun h18 => ?_)
    · exact absurd h18 (by decide)
    · skip
      skip
      refine pm_iconst (v := 1) dX3_setFirst_21 (by decide) ?_
      refine pm_goto (tgt := 26) dX3_setFirst_22 (by decide) ?_
      subst hQ9
      refine pm_zret dX3_setFirst_26 (by first | exact Or.inl rfl | exact Or.inr rfl | assumption) ?_
      first | exact Or.inr ⟨h9, rfl, hf, ht⟩ | exact Or.inl ⟨h9, rfl, rfl⟩

set_option maxHeartbeats 4000000 in
set_option maxRecDepth 100000 in
theorem c_X3_setSecond (G : pm_G) (l : Launch) (bs : Nat) (t r t2 r2 : Nat) (w : List Int32) (S : pm_S) (ha : pm_to S t r) (hb : pm_tm S t2 r2 w) (hl : 0 < w.length) (hwk : ∀ y : Int32, w[0]? = some y → y = -1 ∨ y = 0 ∨ y = 1 ∨ y = 2) (he : 1 ≤ tl_e 95 w 1 1 ∧ tl_e 95 w 1 1 ≤ w.length) : pm_M G l bs yX3_setSecond cX3_setSecond 2 (some .boolean) 2 0 0 [.ref t, .ref t2] S (pm_qi (fun x S2 => (¬ w[0]? = some (-1 : Int32) ∧ x = 0 ∧ S2 = S) ∨ (w[0]? = some (-1 : Int32) ∧ x = 1 ∧ pm_ft S S2 t r ∧ pm_tm S2 t r ((w.drop (tl_e 95 w 1 1)).take (w.length - tl_e 95 w 1 1))))) := by
  refine pm_Mz (L := [.ref t, .ref t2]) (by decide +kernel) rfl (pm_en_1 rfl (pm_en_1 rfl (pm_en_0 rfl))) ?_
  generalize hQ9 : pm_xz (fun x S2 => (¬ w[0]? = some (-1 : Int32) ∧ x = 0 ∧ S2 = S) ∨ (w[0]? = some (-1 : Int32) ∧ x = 1 ∧ pm_ft S S2 t r ∧ pm_tm S2 t r ((w.drop (tl_e 95 w 1 1)).take (w.length - tl_e 95 w 1 1)))) = Q9
  refine pm_aload_n dX3_setSecond_0 rfl ?_
  refine pm_vi (c_X3_kind G l bs t2 r2 w S hb (by omega)) pm_y_X3_kind pm_v_X3_kind pm_m_X3_33 (c := 3) (r := (RX3, TX3, 2)) rfl rfl hb.1.1 dX3_setSecond_1 rfl rfl (by decide) (Nat.le_of_ble_eq_true rfl) (fun x1 S1 h1 => ?_)
  obtain ⟨e1, rfl⟩ := h1
  refine pm_iconst (v := 3) dX3_setSecond_4 (by decide) ?_
  refine pm_icmp_ne (tgt := 28) dX3_setSecond_5 (by decide) (fun h5 => ?_) (fun h5 => ?_)
  · skip
    have h9 : ¬ w[0]? = some (-1 : Int32) := fun z => h5 ((pm_kd3 e1 hwk).mpr z)
    refine pm_iconst (v := 0) dX3_setSecond_28 (by decide) ?_
    subst hQ9
    refine pm_zret dX3_setSecond_29 (by first | exact Or.inl rfl | exact Or.inr rfl | assumption) ?_
    first | exact Or.inr ⟨h9, rfl, hf, ht⟩ | exact Or.inl ⟨h9, rfl, rfl⟩
  · skip
    have h9 : w[0]? = some (-1 : Int32) := (pm_kd3 e1 hwk).mp h5
    refine pm_aload_n dX3_setSecond_8 rfl ?_
    refine pm_aload_n dX3_setSecond_9 rfl ?_
    refine pm_aload_n dX3_setSecond_10 rfl ?_
    refine pm_vi (c_X3_endOfFirst G l bs t2 r2 w _ hb) pm_y_X3_endOfFirst pm_v_X3_endOfFirst pm_m_X3_37 (c := 3) (r := (RX3, TX3, 2)) rfl rfl hb.1.1 dX3_setSecond_11 rfl rfl (by decide) (Nat.le_of_ble_eq_true rfl) (fun x11 S11 h11 => ?_)
    obtain ⟨rfl, rfl⟩ := h11
    refine pm_aload_n dX3_setSecond_14 rfl ?_
    refine pm_g_Term_length hb.1.1 pm_f_X3_15 dX3_setSecond_15 ?_
    rw [hb.2.1]
    refine pm_vi (c_X3_setPart G l bs t r t2 r2 (tl_e 95 w 1 1) w.length w _ ha hb (by omega) (by omega)) pm_y_X3_setPart pm_v_X3_setPart pm_m_X3_40 (c := 3) (r := (RX3, TX3, 2)) rfl rfl ha.1 dX3_setSecond_18 rfl rfl (by decide) (Nat.le_of_ble_eq_true rfl) (fun x18 S18 h18 => ?_)
    obtain ⟨rfl, hf, ht⟩ := h18
    refine pm_if_eq (tgt := 28) dX3_setSecond_21 (by decide) (fun h21 => ?_) (fun h21 => ?_)
    · exact absurd h21 (by decide)
    · skip
      skip
      refine pm_iconst (v := 1) dX3_setSecond_24 (by decide) ?_
      refine pm_goto (tgt := 29) dX3_setSecond_25 (by decide) ?_
      subst hQ9
      refine pm_zret dX3_setSecond_29 (by first | exact Or.inl rfl | exact Or.inr rfl | assumption) ?_
      first | exact Or.inr ⟨h9, rfl, hf, ht⟩ | exact Or.inl ⟨h9, rfl, rfl⟩

