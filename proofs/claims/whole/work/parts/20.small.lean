/-! small methods that change nothing -/
def pm_kd (x : Int32) : Int32 := if x = -1 then 3 else x
set_option maxHeartbeats 4000000 in
set_option maxRecDepth 100000 in
theorem c_X3_kindOf (G : pm_G) (l : Launch) (bs : Nat) (t : Int32) (S : pm_S)  : pm_M G l bs yX3_kindOf cX3_kindOf 1 (some .int) 0 0 0 [.int t] S (pm_qi (fun x S2 => x = pm_kd t ∧ S2 = S)) := by
  refine pm_Mi (L := [.int t]) (by decide +kernel) rfl (pm_en_1 rfl (pm_en_0 rfl)) ?_
  generalize hQ9 : pm_xi (fun x S2 => x = pm_kd t ∧ S2 = S) = Q9
  refine pm_iload_n dX3_kindOf_0 rfl ?_
  refine pm_iconst (v := (-1)) dX3_kindOf_1 (by decide) ?_
  refine pm_icmp_ne (tgt := 9) dX3_kindOf_2 (by decide) (fun h2 => ?_) (fun h2 => ?_)
  · skip
    refine pm_iload_n dX3_kindOf_9 rfl ?_
    subst hQ9
    refine pm_iret dX3_kindOf_10 ?_
    exact ⟨by simp [pm_kd, *], rfl⟩
  · skip
    refine pm_iconst (v := 3) dX3_kindOf_5 (by decide) ?_
    refine pm_goto (tgt := 10) dX3_kindOf_6 (by decide) ?_
    subst hQ9
    refine pm_iret dX3_kindOf_10 ?_
    exact ⟨by simp [pm_kd, *], rfl⟩

set_option maxHeartbeats 4000000 in
set_option maxRecDepth 100000 in
theorem c_X6_isBelow (G : pm_G) (l : Launch) (bs : Nat) (a b : Int32) (S : pm_S)  : pm_M G l bs yX6_isBelow cX6_isBelow 2 (some .boolean) 0 0 0 [.int a, .int b] S (pm_qi (fun x S2 => x = (if 0 ≤ a ∧ a < b then 1 else 0) ∧ S2 = S)) := by
  refine pm_Mz (L := [.int a, .int b]) (by decide +kernel) rfl (pm_en_1 rfl (pm_en_1 rfl (pm_en_0 rfl))) ?_
  generalize hQ9 : pm_xz (fun x S2 => x = (if 0 ≤ a ∧ a < b then 1 else 0) ∧ S2 = S) = Q9
  refine pm_iload_n dX6_isBelow_0 rfl ?_
  refine pm_if_lt (tgt := 13) dX6_isBelow_1 (by decide) (fun h1 => ?_) (fun h1 => ?_)
  · skip
    refine pm_iconst (v := 0) dX6_isBelow_13 (by decide) ?_
    subst hQ9
    refine pm_zret dX6_isBelow_14 (by first | exact Or.inl rfl | exact Or.inr rfl | assumption) ?_
    refine ⟨?_, rfl⟩
    first | (rw [if_pos ⟨Int32.not_lt.mp h1, Int32.not_le.mp h6⟩]; done) | (rw [if_neg (fun z => Int32.not_lt.mpr z.1 h1)]; done) | (rw [if_neg (fun z => Int32.not_le.mpr z.2 h6)]; done)
  · skip
    refine pm_iload_n dX6_isBelow_4 rfl ?_
    refine pm_iload_n dX6_isBelow_5 rfl ?_
    refine pm_icmp_ge (tgt := 13) dX6_isBelow_6 (by decide) (fun h6 => ?_) (fun h6 => ?_)
    · skip
      refine pm_iconst (v := 0) dX6_isBelow_13 (by decide) ?_
      subst hQ9
      refine pm_zret dX6_isBelow_14 (by first | exact Or.inl rfl | exact Or.inr rfl | assumption) ?_
      refine ⟨?_, rfl⟩
      first | (rw [if_pos ⟨Int32.not_lt.mp h1, Int32.not_le.mp h6⟩]; done) | (rw [if_neg (fun z => Int32.not_lt.mpr z.1 h1)]; done) | (rw [if_neg (fun z => Int32.not_le.mpr z.2 h6)]; done)
    · skip
      refine pm_iconst (v := 1) dX6_isBelow_9 (by decide) ?_
      refine pm_goto (tgt := 14) dX6_isBelow_10 (by decide) ?_
      subst hQ9
      refine pm_zret dX6_isBelow_14 (by first | exact Or.inl rfl | exact Or.inr rfl | assumption) ?_
      refine ⟨?_, rfl⟩
      first | (rw [if_pos ⟨Int32.not_lt.mp h1, Int32.not_le.mp h6⟩]; done) | (rw [if_neg (fun z => Int32.not_lt.mpr z.1 h1)]; done) | (rw [if_neg (fun z => Int32.not_le.mpr z.2 h6)]; done)

set_option maxHeartbeats 4000000 in
set_option maxRecDepth 100000 in
theorem c_X3_kind (G : pm_G) (l : Launch) (bs : Nat) (t r : Nat) (w : List Int32) (S : pm_S) (h : pm_tm S t r w) (h0 : 0 < w.length) : pm_M G l bs yX3_kind cX3_kind 1 (some .int) 1 0 0 [.ref t] S (pm_qi (fun x S2 => w[0]?.map pm_kd = some x ∧ S2 = S)) := by
  obtain ⟨⟨hk, hp, hkr, hnr⟩, hlen, hle, hx⟩ := h
  refine pm_Mi (L := [.ref t]) (by decide +kernel) rfl (pm_en_1 rfl (pm_en_0 rfl)) ?_
  generalize hQ9 : pm_xi (fun x S2 => w[0]?.map pm_kd = some x ∧ S2 = S) = Q9
  refine pm_aload_n dX3_kind_0 rfl ?_
  refine pm_g_Term_row (by (try simp only [pm_k_si, pm_k_sj, pm_k_sp, pm_k_sx, pm_k_sz, pm_k_sr, pm_k_sy]); assumption) pm_f_X3_11 (by (try simp only [pm_p_si, pm_p_sj, pm_p_sx, pm_p_sz, pm_p_sr, pm_p_sy]); assumption) dX3_kind_1 ?_
  refine pm_iconst (v := 0) dX3_kind_4 (by decide) ?_
  refine pm_iaload (n := 0) (by (try simp only [pm_k_si, pm_k_sj, pm_k_sp, pm_k_sx, pm_k_sz, pm_k_sr, pm_k_sy]); assumption) nI_0.symm (by first | omega | (simp only [pm_n_sx, pm_n_si, pm_n_sr, pm_n_sz, pm_n_sp, pm_n_sj, pm_n_sy]; omega)) (by first | omega | (simp only [pm_n_sx, pm_n_si, pm_n_sr, pm_n_sz, pm_n_sp, pm_n_sj, pm_n_sy]; omega)) dX3_kind_5 ?_
  refine pm_ssi (c_X3_kindOf G l bs _ S) pm_y_X3_kindOf pm_s_X3_kindOf pm_m_X3_19 dX3_kind_6 rfl rfl (by decide) (Nat.le_of_ble_eq_true rfl) (fun x6 S6 h6 => ?_)
  obtain ⟨rfl, rfl⟩ := h6
  subst hQ9
  refine pm_iret dX3_kind_9 ?_
  exact ⟨by rw [hx 0 h0]; rfl, rfl⟩

set_option maxHeartbeats 4000000 in
set_option maxRecDepth 100000 in
theorem c_X3_value (G : pm_G) (l : Launch) (bs : Nat) (t r : Nat) (w : List Int32) (S : pm_S) (h : pm_tm S t r w) (h0 : 1 < w.length) : pm_M G l bs yX3_value cX3_value 1 (some .int) 0 0 0 [.ref t] S (pm_qi (fun x S2 => w[1]? = some x ∧ S2 = S)) := by
  obtain ⟨⟨hk, hp, hkr, hnr⟩, hlen, hle, hx⟩ := h
  refine pm_Mi (L := [.ref t]) (by decide +kernel) rfl (pm_en_1 rfl (pm_en_0 rfl)) ?_
  generalize hQ9 : pm_xi (fun x S2 => w[1]? = some x ∧ S2 = S) = Q9
  refine pm_aload_n dX3_value_0 rfl ?_
  refine pm_g_Term_row (by (try simp only [pm_k_si, pm_k_sj, pm_k_sp, pm_k_sx, pm_k_sz, pm_k_sr, pm_k_sy]); assumption) pm_f_X3_11 (by (try simp only [pm_p_si, pm_p_sj, pm_p_sx, pm_p_sz, pm_p_sr, pm_p_sy]); assumption) dX3_value_1 ?_
  refine pm_iconst (v := 1) dX3_value_4 (by decide) ?_
  refine pm_iaload (n := 1) (by (try simp only [pm_k_si, pm_k_sj, pm_k_sp, pm_k_sx, pm_k_sz, pm_k_sr, pm_k_sy]); assumption) rfl (by first | omega | (simp only [pm_n_sx, pm_n_si, pm_n_sr, pm_n_sz, pm_n_sp, pm_n_sj, pm_n_sy]; omega)) (by first | omega | (simp only [pm_n_sx, pm_n_si, pm_n_sr, pm_n_sz, pm_n_sp, pm_n_sj, pm_n_sy]; omega)) dX3_value_5 ?_
  subst hQ9
  refine pm_iret dX3_value_6 ?_
  exact ⟨hx 1 h0, rfl⟩

set_option maxHeartbeats 4000000 in
set_option maxRecDepth 100000 in
theorem c_X3_isAtom (G : pm_G) (l : Launch) (bs : Nat) (t r : Nat) (w : List Int32) (a : Int32) (S : pm_S) (h : pm_tm S t r w) (h0 : 1 < w.length) : pm_M G l bs yX3_isAtom cX3_isAtom 2 (some .boolean) 0 0 0 [.ref t, .int a] S (pm_qi (fun x S2 => x = (if w[0]? = some 1 ∧ w[1]? = some a then 1 else 0) ∧ S2 = S)) := by
  obtain ⟨⟨hk, hp, hkr, hnr⟩, hlen, hle, hx⟩ := h
  refine pm_Mz (L := [.ref t, .int a]) (by decide +kernel) rfl (pm_en_1 rfl (pm_en_1 rfl (pm_en_0 rfl))) ?_
  generalize hQ9 : pm_xz (fun x S2 => x = (if w[0]? = some 1 ∧ w[1]? = some a then 1 else 0) ∧ S2 = S) = Q9
  refine pm_aload_n dX3_isAtom_0 rfl ?_
  refine pm_g_Term_row (by (try simp only [pm_k_si, pm_k_sj, pm_k_sp, pm_k_sx, pm_k_sz, pm_k_sr, pm_k_sy]); assumption) pm_f_X3_11 (by (try simp only [pm_p_si, pm_p_sj, pm_p_sx, pm_p_sz, pm_p_sr, pm_p_sy]); assumption) dX3_isAtom_1 ?_
  refine pm_iconst (v := 0) dX3_isAtom_4 (by decide) ?_
  refine pm_iaload (n := 0) (by (try simp only [pm_k_si, pm_k_sj, pm_k_sp, pm_k_sx, pm_k_sz, pm_k_sr, pm_k_sy]); assumption) nI_0.symm (by first | omega | (simp only [pm_n_sx, pm_n_si, pm_n_sr, pm_n_sz, pm_n_sp, pm_n_sj, pm_n_sy]; omega)) (by first | omega | (simp only [pm_n_sx, pm_n_si, pm_n_sr, pm_n_sz, pm_n_sp, pm_n_sj, pm_n_sy]; omega)) dX3_isAtom_5 ?_
  refine pm_iconst (v := 1) dX3_isAtom_6 (by decide) ?_
  refine pm_icmp_ne (tgt := 24) dX3_isAtom_7 (by decide) (fun h7 => ?_) (fun h7 => ?_)
  · skip
    refine pm_iconst (v := 0) dX3_isAtom_24 (by decide) ?_
    subst hQ9
    refine pm_zret dX3_isAtom_25 (by first | exact Or.inl rfl | exact Or.inr rfl | assumption) ?_
    refine ⟨?_, rfl⟩
    rw [hx 0 (by omega), hx 1 h0]
    simp only [Option.some.injEq]
    simp [*]
  · skip
    refine pm_aload_n dX3_isAtom_10 rfl ?_
    refine pm_g_Term_row (by (try simp only [pm_k_si, pm_k_sj, pm_k_sp, pm_k_sx, pm_k_sz, pm_k_sr, pm_k_sy]); assumption) pm_f_X3_11 (by (try simp only [pm_p_si, pm_p_sj, pm_p_sx, pm_p_sz, pm_p_sr, pm_p_sy]); assumption) dX3_isAtom_11 ?_
    refine pm_iconst (v := 1) dX3_isAtom_14 (by decide) ?_
    refine pm_iaload (n := 1) (by (try simp only [pm_k_si, pm_k_sj, pm_k_sp, pm_k_sx, pm_k_sz, pm_k_sr, pm_k_sy]); assumption) rfl (by first | omega | (simp only [pm_n_sx, pm_n_si, pm_n_sr, pm_n_sz, pm_n_sp, pm_n_sj, pm_n_sy]; omega)) (by first | omega | (simp only [pm_n_sx, pm_n_si, pm_n_sr, pm_n_sz, pm_n_sp, pm_n_sj, pm_n_sy]; omega)) dX3_isAtom_15 ?_
    refine pm_iload_n dX3_isAtom_16 rfl ?_
    refine pm_icmp_ne (tgt := 24) dX3_isAtom_17 (by decide) (fun h17 => ?_) (fun h17 => ?_)
    · skip
      refine pm_iconst (v := 0) dX3_isAtom_24 (by decide) ?_
      subst hQ9
      refine pm_zret dX3_isAtom_25 (by first | exact Or.inl rfl | exact Or.inr rfl | assumption) ?_
      refine ⟨?_, rfl⟩
      rw [hx 0 (by omega), hx 1 h0]
      simp only [Option.some.injEq]
      simp [*]
    · skip
      refine pm_iconst (v := 1) dX3_isAtom_20 (by decide) ?_
      refine pm_goto (tgt := 25) dX3_isAtom_21 (by decide) ?_
      subst hQ9
      refine pm_zret dX3_isAtom_25 (by first | exact Or.inl rfl | exact Or.inr rfl | assumption) ?_
      refine ⟨?_, rfl⟩
      rw [hx 0 (by omega), hx 1 h0]
      simp only [Option.some.injEq]
      simp [*]

set_option maxHeartbeats 4000000 in
set_option maxRecDepth 100000 in
theorem c_X3_numberAt (G : pm_G) (l : Launch) (bs : Nat) (t r : Nat) (w : List Int32) (i : Int32) (S : pm_S) (h : pm_tm S t r w) : pm_M G l bs yX3_numberAt cX3_numberAt 2 (some .int) 0 0 0 [.ref t, .int i] S (pm_qi (fun x S2 => x = (if 0 ≤ i ∧ i.toInt < w.length then w.getD i.toInt.toNat 0 else -1) ∧ S2 = S)) := by
  obtain ⟨⟨hk, hp, hkr, hnr⟩, hlen, hle, hx⟩ := h
  refine pm_Mi (L := [.ref t, .int i]) (by decide +kernel) rfl (pm_en_1 rfl (pm_en_1 rfl (pm_en_0 rfl))) ?_
  generalize hQ9 : pm_xi (fun x S2 => x = (if 0 ≤ i ∧ i.toInt < w.length then w.getD i.toInt.toNat 0 else -1) ∧ S2 = S) = Q9
  refine pm_iload_n dX3_numberAt_0 rfl ?_
  refine pm_if_lt (tgt := 21) dX3_numberAt_1 (by decide) (fun h1 => ?_) (fun h1 => ?_)
  · skip
    have h9 : ¬ (0 ≤ i ∧ i.toInt < w.length) := fun z => by have := pm_0le.mp z.1; have := pm_lt0.mp h1; omega
    refine pm_iconst (v := (-1)) dX3_numberAt_21 (by decide) ?_
    subst hQ9
    refine pm_iret dX3_numberAt_22 ?_
    refine ⟨?_, rfl⟩
    first | (rw [if_neg h9]; done) | (rw [if_pos h9, nI_toInt hn]; have h8 := hx n hlt; simp [List.getD, h8]; done)
  · skip
    refine pm_iload_n dX3_numberAt_4 rfl ?_
    refine pm_aload_n dX3_numberAt_5 rfl ?_
    refine pm_g_Term_length (by (try simp only [pm_k_si, pm_k_sj, pm_k_sp, pm_k_sx, pm_k_sz, pm_k_sr, pm_k_sy]); assumption) pm_f_X3_15 dX3_numberAt_6 ?_
    obtain ⟨n, hn, rfl⟩ := nI_of h1
    refine pm_icmp_ge (tgt := 21) dX3_numberAt_9 (by decide) (fun h9 => ?_) (fun h9 => ?_)
    · skip
      have h9 : ¬ (0 ≤ nI n ∧ (nI n).toInt < w.length) := fun z => by rw [hlen] at h9; have := (pm_nle hn (by omega)).mp h9; have := nI_toInt hn; omega
      refine pm_iconst (v := (-1)) dX3_numberAt_21 (by decide) ?_
      subst hQ9
      refine pm_iret dX3_numberAt_22 ?_
      refine ⟨?_, rfl⟩
      first | (rw [if_neg h9]; done) | (rw [if_pos h9, nI_toInt hn]; have h8 := hx n hlt; simp [List.getD, h8]; done)
    · skip
      have hlt : n < w.length := by rw [hlen] at h9; rcases Nat.lt_or_ge n w.length with q | q; exact q; exact absurd ((pm_nle hn (by omega)).mpr q) h9
      have h9 : (0 ≤ nI n ∧ (nI n).toInt < w.length) := ⟨nI_pos' hn, by have := nI_toInt hn; omega⟩
      refine pm_aload_n dX3_numberAt_12 rfl ?_
      refine pm_g_Term_row (by (try simp only [pm_k_si, pm_k_sj, pm_k_sp, pm_k_sx, pm_k_sz, pm_k_sr, pm_k_sy]); assumption) pm_f_X3_11 (by (try simp only [pm_p_si, pm_p_sj, pm_p_sx, pm_p_sz, pm_p_sr, pm_p_sy]); assumption) dX3_numberAt_13 ?_
      refine pm_iload_n dX3_numberAt_16 rfl ?_
      refine pm_iaload (n := n) (by (try simp only [pm_k_si, pm_k_sj, pm_k_sp, pm_k_sx, pm_k_sz, pm_k_sr, pm_k_sy]); assumption) rfl (by first | omega | (simp only [pm_n_sx, pm_n_si, pm_n_sr, pm_n_sz, pm_n_sp, pm_n_sj, pm_n_sy]; omega)) (by first | omega | (simp only [pm_n_sx, pm_n_si, pm_n_sr, pm_n_sz, pm_n_sp, pm_n_sj, pm_n_sy]; omega)) dX3_numberAt_17 ?_
      refine pm_goto (tgt := 22) dX3_numberAt_18 (by decide) ?_
      subst hQ9
      refine pm_iret dX3_numberAt_22 ?_
      refine ⟨?_, rfl⟩
      first | (rw [if_neg h9]; done) | (rw [if_pos h9, nI_toInt hn]; have h8 := hx n hlt; simp [List.getD, h8]; done)

