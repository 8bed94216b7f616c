/-! Trail: the words to come back to and the words that catch: v the object, b its backs, c its catches, e the backs at each catch -/
def pm_ts (S : pm_S) (v b c e : Nat) : Prop := pm_k S v = 5 ∧ pm_p S 200 v = some b ∧ pm_p S 201 v = some c ∧ pm_p S 202 v = some e ∧ pm_k S b = 9 ∧ pm_n S b = 16 ∧ pm_k S c = 9 ∧ pm_n S c = 8 ∧ pm_k S e = 9 ∧ pm_n S e = 8
theorem pm_lt16 {n m : Nat} (hn : n < 2 ^ 31) (hm : m < 2 ^ 31) : nI n < nI m ↔ n < m := nI_ltI hn hm
theorem pm_0lt {n : Nat} (hn : n < 2 ^ 31) : 0 < nI n ↔ 0 < n := by rw [show (0 : Int32) = nI 0 from rfl, nI_ltI (by omega) hn]
set_option maxHeartbeats 4000000 in
set_option maxRecDepth 100000 in
theorem c_X4_addBack (G : pm_G) (l : Launch) (bs : Nat) (v b c e : Nat) (n : Nat) (a : Int32) (S : pm_S) (h : pm_ts S v b c e) (hn : pm_i S 203 v = nI n) (hn3 : n < 2 ^ 31) : pm_M G l bs yX4_addBack cX4_addBack 2 (some .boolean) 0 0 0 [.ref v, .int a] S (pm_qi (fun x S2 => (16 ≤ n ∧ x = 0 ∧ S2 = S) ∨ (n < 16 ∧ x = 1 ∧ S2 = pm_si (pm_sx S b n a) 203 v (nI (n + 1))))) := by
  obtain ⟨hk, hp1, hp2, hp3, hkb, hnb, hkc, hnc, hke, hne⟩ := h
  refine pm_Mz (L := [.ref v, .int a]) (by decide +kernel) rfl (pm_en_1 rfl (pm_en_1 rfl (pm_en_0 rfl))) ?_
  generalize hQ9 : pm_xz (fun x S2 => (16 ≤ n ∧ x = 0 ∧ S2 = S) ∨ (n < 16 ∧ x = 1 ∧ S2 = pm_si (pm_sx S b n a) 203 v (nI (n + 1)))) = Q9
  refine pm_aload_n dX4_addBack_0 rfl ?_
  refine pm_g_Trail_backCount (by (try simp only [pm_k_si, pm_k_sj, pm_k_sp, pm_k_sx, pm_k_sz, pm_k_sr, pm_k_sy]); assumption) pm_f_X4_21 dX4_addBack_1 ?_
  refine pm_bipush (v := 16) dX4_addBack_4 (by decide) ?_
  rw [hn]
  refine pm_icmp_lt (tgt := 11) dX4_addBack_6 (by decide) (fun h6 => ?_) (fun h6 => ?_)
  · skip
    have h9 : n < 16 := (pm_lt16 (m := 16) hn3 (by decide)).mp h6
    refine pm_aload_n dX4_addBack_11 rfl ?_
    refine pm_g_Trail_backs (by (try simp only [pm_k_si, pm_k_sj, pm_k_sp, pm_k_sx, pm_k_sz, pm_k_sr, pm_k_sy]); assumption) pm_f_X4_11 (by (try simp only [pm_p_si, pm_p_sj, pm_p_sx, pm_p_sz, pm_p_sr, pm_p_sy]); assumption) dX4_addBack_12 ?_
    refine pm_aload_n dX4_addBack_15 rfl ?_
    refine pm_g_Trail_backCount (by (try simp only [pm_k_si, pm_k_sj, pm_k_sp, pm_k_sx, pm_k_sz, pm_k_sr, pm_k_sy]); assumption) pm_f_X4_21 dX4_addBack_16 ?_
    refine pm_iload_n dX4_addBack_19 rfl ?_
    refine pm_iastore (n := n) (by (try simp only [pm_k_si, pm_k_sj, pm_k_sp, pm_k_sx, pm_k_sz, pm_k_sr, pm_k_sy]); assumption) hn (by first | omega | (simp only [pm_n_sx, pm_n_si, pm_n_sr, pm_n_sz, pm_n_sp, pm_n_sj, pm_n_sy]; omega)) (by first | omega | (simp only [pm_n_sx, pm_n_si, pm_n_sr, pm_n_sz, pm_n_sp, pm_n_sj, pm_n_sy]; omega)) dX4_addBack_20 ?_
    refine pm_aload_n dX4_addBack_21 rfl ?_
    refine pm_dup dX4_addBack_22 ?_
    refine pm_g_Trail_backCount (by (try simp only [pm_k_si, pm_k_sj, pm_k_sp, pm_k_sx, pm_k_sz, pm_k_sr, pm_k_sy]); assumption) pm_f_X4_21 dX4_addBack_23 ?_
    refine pm_iconst (v := 1) dX4_addBack_26 (by decide) ?_
    refine pm_iadd dX4_addBack_27 ?_
    refine pm_p_Trail_backCount (by (try simp only [pm_k_si, pm_k_sj, pm_k_sp, pm_k_sx, pm_k_sz, pm_k_sr, pm_k_sy]); assumption) pm_f_X4_21 dX4_addBack_28 ?_
    refine pm_iconst (v := 1) dX4_addBack_31 (by decide) ?_
    subst hQ9
    refine pm_zret dX4_addBack_32 (by first | exact Or.inl rfl | exact Or.inr rfl | assumption) ?_
    exact Or.inr ⟨h9, rfl, by rw [pm_i_sx, hn, nI_1]⟩
  · skip
    have h9 : 16 ≤ n := by rcases Nat.lt_or_ge n 16 with q | q; exact absurd ((pm_lt16 (m := 16) hn3 (by decide)).mpr q) h6; exact q
    refine pm_iconst (v := 0) dX4_addBack_9 (by decide) ?_
    subst hQ9
    refine pm_zret dX4_addBack_10 (by first | exact Or.inl rfl | exact Or.inr rfl | assumption) ?_
    exact Or.inl ⟨h9, rfl, rfl⟩

set_option maxHeartbeats 4000000 in
set_option maxRecDepth 100000 in
theorem c_X4_takeBack (G : pm_G) (l : Launch) (bs : Nat) (v b c e : Nat) (n : Nat) (S : pm_S) (h : pm_ts S v b c e) (hn : pm_i S 203 v = nI n) (hn3 : n ≤ 16) : pm_M G l bs yX4_takeBack cX4_takeBack 1 (some .int) 0 0 0 [.ref v] S (pm_qi (fun x S2 => (n = 0 ∧ x = -1 ∧ S2 = S) ∨ (0 < n ∧ x = pm_x S b (n - 1) ∧ S2 = pm_si S 203 v (nI (n - 1))))) := by
  obtain ⟨hk, hp1, hp2, hp3, hkb, hnb, hkc, hnc, hke, hne⟩ := h
  refine pm_Mi (L := [.ref v]) (by decide +kernel) rfl (pm_en_1 rfl (pm_en_0 rfl)) ?_
  generalize hQ9 : pm_xi (fun x S2 => (n = 0 ∧ x = -1 ∧ S2 = S) ∨ (0 < n ∧ x = pm_x S b (n - 1) ∧ S2 = pm_si S 203 v (nI (n - 1)))) = Q9
  refine pm_aload_n dX4_takeBack_0 rfl ?_
  refine pm_g_Trail_backCount (by (try simp only [pm_k_si, pm_k_sj, pm_k_sp, pm_k_sx, pm_k_sz, pm_k_sr, pm_k_sy]); assumption) pm_f_X4_21 dX4_takeBack_1 ?_
  rw [hn]
  refine pm_if_gt (tgt := 9) dX4_takeBack_4 (by decide) (fun h4 => ?_) (fun h4 => ?_)
  · skip
    have h9 : 0 < n := (pm_0lt (by omega)).mp h4
    refine pm_aload_n dX4_takeBack_9 rfl ?_
    refine pm_dup dX4_takeBack_10 ?_
    refine pm_g_Trail_backCount (by (try simp only [pm_k_si, pm_k_sj, pm_k_sp, pm_k_sx, pm_k_sz, pm_k_sr, pm_k_sy]); assumption) pm_f_X4_21 dX4_takeBack_11 ?_
    refine pm_iconst (v := 1) dX4_takeBack_14 (by decide) ?_
    refine pm_isub dX4_takeBack_15 ?_
    rw [hn, show nI n - 1 = nI (n - 1) from by rw [show (1 : Int32) = nI 1 from rfl, pk_sub (by omega)]]
    refine pm_p_Trail_backCount (by (try simp only [pm_k_si, pm_k_sj, pm_k_sp, pm_k_sx, pm_k_sz, pm_k_sr, pm_k_sy]); assumption) pm_f_X4_21 dX4_takeBack_16 ?_
    refine pm_aload_n dX4_takeBack_19 rfl ?_
    refine pm_g_Trail_backs (by (try simp only [pm_k_si, pm_k_sj, pm_k_sp, pm_k_sx, pm_k_sz, pm_k_sr, pm_k_sy]); assumption) pm_f_X4_11 (by (try simp only [pm_p_si, pm_p_sj, pm_p_sx, pm_p_sz, pm_p_sr, pm_p_sy]); assumption) dX4_takeBack_20 ?_
    refine pm_aload_n dX4_takeBack_23 rfl ?_
    refine pm_g_Trail_backCount (by (try simp only [pm_k_si, pm_k_sj, pm_k_sp, pm_k_sx, pm_k_sz, pm_k_sr, pm_k_sy]); assumption) pm_f_X4_21 dX4_takeBack_24 ?_
    rw [pm_i_si, if_pos ⟨rfl, rfl⟩]
    refine pm_iaload (n := n - 1) (by (try simp only [pm_k_si, pm_k_sj, pm_k_sp, pm_k_sx, pm_k_sz, pm_k_sr, pm_k_sy]); assumption) rfl (by first | omega | (simp only [pm_n_sx, pm_n_si, pm_n_sr, pm_n_sz, pm_n_sp, pm_n_sj, pm_n_sy]; omega)) (by first | omega | (simp only [pm_n_sx, pm_n_si, pm_n_sr, pm_n_sz, pm_n_sp, pm_n_sj, pm_n_sy]; omega)) dX4_takeBack_27 ?_
    subst hQ9
    refine pm_iret dX4_takeBack_28 ?_
    exact Or.inr ⟨h9, rfl, rfl⟩
  · skip
    have h9 : n = 0 := by rcases Nat.eq_zero_or_pos n with q | q; exact q; exact absurd ((pm_0lt (by omega)).mpr q) h4
    refine pm_iconst (v := (-1)) dX4_takeBack_7 (by decide) ?_
    subst hQ9
    refine pm_iret dX4_takeBack_8 ?_
    exact Or.inl ⟨h9, rfl, rfl⟩

set_option maxHeartbeats 4000000 in
set_option maxRecDepth 100000 in
theorem c_X4_addCatch (G : pm_G) (l : Launch) (bs : Nat) (v b c e : Nat) (n : Nat) (m : Nat) (a : Int32) (S : pm_S) (h : pm_ts S v b c e) (hn : pm_i S 204 v = nI n) (hm : pm_i S 203 v = nI m) (hn3 : n < 2 ^ 31) : pm_M G l bs yX4_addCatch cX4_addCatch 2 (some .boolean) 0 0 0 [.ref v, .int a] S (pm_qi (fun x S2 => (8 ≤ n ∧ x = 0 ∧ S2 = S) ∨ (n < 8 ∧ x = 1 ∧ S2 = pm_si (pm_sx (pm_sx S c n a) e n (nI m)) 204 v (nI (n + 1))))) := by
  obtain ⟨hk, hp1, hp2, hp3, hkb, hnb, hkc, hnc, hke, hne⟩ := h
  refine pm_Mz (L := [.ref v, .int a]) (by decide +kernel) rfl (pm_en_1 rfl (pm_en_1 rfl (pm_en_0 rfl))) ?_
  generalize hQ9 : pm_xz (fun x S2 => (8 ≤ n ∧ x = 0 ∧ S2 = S) ∨ (n < 8 ∧ x = 1 ∧ S2 = pm_si (pm_sx (pm_sx S c n a) e n (nI m)) 204 v (nI (n + 1)))) = Q9
  refine pm_aload_n dX4_addCatch_0 rfl ?_
  refine pm_g_Trail_catchCount (by (try simp only [pm_k_si, pm_k_sj, pm_k_sp, pm_k_sx, pm_k_sz, pm_k_sr, pm_k_sy]); assumption) pm_f_X4_25 dX4_addCatch_1 ?_
  refine pm_bipush (v := 8) dX4_addCatch_4 (by decide) ?_
  rw [hn]
  refine pm_icmp_lt (tgt := 11) dX4_addCatch_6 (by decide) (fun h6 => ?_) (fun h6 => ?_)
  · skip
    have h9 : n < 8 := (pm_lt16 (m := 8) hn3 (by decide)).mp h6
    refine pm_aload_n dX4_addCatch_11 rfl ?_
    refine pm_g_Trail_catches (by (try simp only [pm_k_si, pm_k_sj, pm_k_sp, pm_k_sx, pm_k_sz, pm_k_sr, pm_k_sy]); assumption) pm_f_X4_15 (by (try simp only [pm_p_si, pm_p_sj, pm_p_sx, pm_p_sz, pm_p_sr, pm_p_sy]); assumption) dX4_addCatch_12 ?_
    refine pm_aload_n dX4_addCatch_15 rfl ?_
    refine pm_g_Trail_catchCount (by (try simp only [pm_k_si, pm_k_sj, pm_k_sp, pm_k_sx, pm_k_sz, pm_k_sr, pm_k_sy]); assumption) pm_f_X4_25 dX4_addCatch_16 ?_
    refine pm_iload_n dX4_addCatch_19 rfl ?_
    refine pm_iastore (n := n) (by (try simp only [pm_k_si, pm_k_sj, pm_k_sp, pm_k_sx, pm_k_sz, pm_k_sr, pm_k_sy]); assumption) hn (by first | omega | (simp only [pm_n_sx, pm_n_si, pm_n_sr, pm_n_sz, pm_n_sp, pm_n_sj, pm_n_sy]; omega)) (by first | omega | (simp only [pm_n_sx, pm_n_si, pm_n_sr, pm_n_sz, pm_n_sp, pm_n_sj, pm_n_sy]; omega)) dX4_addCatch_20 ?_
    refine pm_aload_n dX4_addCatch_21 rfl ?_
    refine pm_g_Trail_backsAtCatch (by (try simp only [pm_k_si, pm_k_sj, pm_k_sp, pm_k_sx, pm_k_sz, pm_k_sr, pm_k_sy]); assumption) pm_f_X4_18 (by (try simp only [pm_p_si, pm_p_sj, pm_p_sx, pm_p_sz, pm_p_sr, pm_p_sy]); assumption) dX4_addCatch_22 ?_
    refine pm_aload_n dX4_addCatch_25 rfl ?_
    refine pm_g_Trail_catchCount (by (try simp only [pm_k_si, pm_k_sj, pm_k_sp, pm_k_sx, pm_k_sz, pm_k_sr, pm_k_sy]); assumption) pm_f_X4_25 dX4_addCatch_26 ?_
    refine pm_aload_n dX4_addCatch_29 rfl ?_
    refine pm_g_Trail_backCount (by (try simp only [pm_k_si, pm_k_sj, pm_k_sp, pm_k_sx, pm_k_sz, pm_k_sr, pm_k_sy]); assumption) pm_f_X4_21 dX4_addCatch_30 ?_
    rw [pm_i_sx, pm_i_sx, hm]
    refine pm_iastore (n := n) (by (try simp only [pm_k_si, pm_k_sj, pm_k_sp, pm_k_sx, pm_k_sz, pm_k_sr, pm_k_sy]); assumption) hn (by first | omega | (simp only [pm_n_sx, pm_n_si, pm_n_sr, pm_n_sz, pm_n_sp, pm_n_sj, pm_n_sy]; omega)) (by first | omega | (simp only [pm_n_sx, pm_n_si, pm_n_sr, pm_n_sz, pm_n_sp, pm_n_sj, pm_n_sy]; omega)) dX4_addCatch_33 ?_
    refine pm_aload_n dX4_addCatch_34 rfl ?_
    refine pm_dup dX4_addCatch_35 ?_
    refine pm_g_Trail_catchCount (by (try simp only [pm_k_si, pm_k_sj, pm_k_sp, pm_k_sx, pm_k_sz, pm_k_sr, pm_k_sy]); assumption) pm_f_X4_25 dX4_addCatch_36 ?_
    refine pm_iconst (v := 1) dX4_addCatch_39 (by decide) ?_
    refine pm_iadd dX4_addCatch_40 ?_
    refine pm_p_Trail_catchCount (by (try simp only [pm_k_si, pm_k_sj, pm_k_sp, pm_k_sx, pm_k_sz, pm_k_sr, pm_k_sy]); assumption) pm_f_X4_25 dX4_addCatch_41 ?_
    refine pm_iconst (v := 1) dX4_addCatch_44 (by decide) ?_
    subst hQ9
    refine pm_zret dX4_addCatch_45 (by first | exact Or.inl rfl | exact Or.inr rfl | assumption) ?_
    exact Or.inr ⟨h9, rfl, by rw [pm_i_sx, pm_i_sx, hn, nI_1]⟩
  · skip
    have h9 : 8 ≤ n := by rcases Nat.lt_or_ge n 8 with q | q; exact absurd ((pm_lt16 (m := 8) hn3 (by decide)).mpr q) h6; exact q
    refine pm_iconst (v := 0) dX4_addCatch_9 (by decide) ?_
    subst hQ9
    refine pm_zret dX4_addCatch_10 (by first | exact Or.inl rfl | exact Or.inr rfl | assumption) ?_
    exact Or.inl ⟨h9, rfl, rfl⟩

set_option maxHeartbeats 4000000 in
set_option maxRecDepth 100000 in
theorem c_X4_dropCatch (G : pm_G) (l : Launch) (bs : Nat) (v b c e : Nat) (n : Nat) (S : pm_S) (h : pm_ts S v b c e) (hn : pm_i S 204 v = nI n) (hn3 : n ≤ 8) : pm_M G l bs yX4_dropCatch cX4_dropCatch 1 none 0 0 0 [.ref v] S (pm_qv (fun S2 => (n = 0 ∧ S2 = S) ∨ (0 < n ∧ S2 = pm_si S 204 v (nI (n - 1))))) := by
  obtain ⟨hk, hp1, hp2, hp3, hkb, hnb, hkc, hnc, hke, hne⟩ := h
  refine pm_Mv (L := [.ref v]) false (by decide +kernel) (fun h => by cases h) rfl (pm_en_1 rfl (pm_en_0 rfl)) ?_
  generalize hQ9 : pm_xv (fun S2 => (n = 0 ∧ S2 = S) ∨ (0 < n ∧ S2 = pm_si S 204 v (nI (n - 1)))) = Q9
  refine pm_aload_n dX4_dropCatch_0 rfl ?_
  refine pm_g_Trail_catchCount (by (try simp only [pm_k_si, pm_k_sj, pm_k_sp, pm_k_sx, pm_k_sz, pm_k_sr, pm_k_sy]); assumption) pm_f_X4_25 dX4_dropCatch_1 ?_
  rw [hn]
  refine pm_if_le (tgt := 17) dX4_dropCatch_4 (by decide) (fun h4 => ?_) (fun h4 => ?_)
  · skip
    have h9 : n = 0 := (pm_le0 (by omega)).mp h4
    subst hQ9
    refine pm_vret dX4_dropCatch_17 ?_
    first | exact Or.inl ⟨h9, rfl⟩ | exact Or.inr ⟨h9, rfl⟩
  · skip
    have h9 : 0 < n := by rcases Nat.eq_zero_or_pos n with q | q; exact absurd ((pm_le0 (by omega)).mpr q) h4; exact q
    refine pm_aload_n dX4_dropCatch_7 rfl ?_
    refine pm_dup dX4_dropCatch_8 ?_
    refine pm_g_Trail_catchCount (by (try simp only [pm_k_si, pm_k_sj, pm_k_sp, pm_k_sx, pm_k_sz, pm_k_sr, pm_k_sy]); assumption) pm_f_X4_25 dX4_dropCatch_9 ?_
    refine pm_iconst (v := 1) dX4_dropCatch_12 (by decide) ?_
    refine pm_isub dX4_dropCatch_13 ?_
    rw [hn, show nI n - 1 = nI (n - 1) from by rw [show (1 : Int32) = nI 1 from rfl, pk_sub (by omega)]]
    refine pm_p_Trail_catchCount (by (try simp only [pm_k_si, pm_k_sj, pm_k_sp, pm_k_sx, pm_k_sz, pm_k_sr, pm_k_sy]); assumption) pm_f_X4_25 dX4_dropCatch_14 ?_
    subst hQ9
    refine pm_vret dX4_dropCatch_17 ?_
    first | exact Or.inl ⟨h9, rfl⟩ | exact Or.inr ⟨h9, rfl⟩

set_option maxHeartbeats 4000000 in
set_option maxRecDepth 100000 in
theorem c_X4_takeCatch (G : pm_G) (l : Launch) (bs : Nat) (v b c e : Nat) (n : Nat) (m k : Nat) (S : pm_S) (h : pm_ts S v b c e) (hn : pm_i S 204 v = nI n) (hn3 : n ≤ 8) (hm : pm_i S 203 v = nI m) (hm3 : m < 2 ^ 31) (hek : 0 < n → pm_x S e (n - 1) = nI k) (hk3 : k < 2 ^ 31) : pm_M G l bs yX4_takeCatch cX4_takeCatch 1 (some .int) 1 0 0 [.ref v] S (pm_qi (fun x S2 => (n = 0 ∧ x = -1 ∧ S2 = S) ∨ (0 < n ∧ x = pm_x S c (n - 1) ∧ S2 = pm_si (pm_si S 204 v (nI (n - 1))) 203 v (nI (min m k))))) := by
  obtain ⟨hk, hp1, hp2, hp3, hkb, hnb, hkc, hnc, hke, hne⟩ := h
  refine pm_Mi (L := [.ref v]) (by decide +kernel) rfl (pm_en_1 rfl (pm_en_0 rfl)) ?_
  generalize hQ9 : pm_xi (fun x S2 => (n = 0 ∧ x = -1 ∧ S2 = S) ∨ (0 < n ∧ x = pm_x S c (n - 1) ∧ S2 = pm_si (pm_si S 204 v (nI (n - 1))) 203 v (nI (min m k)))) = Q9
  refine pm_aload_n dX4_takeCatch_0 rfl ?_
  refine pm_g_Trail_catchCount (by (try simp only [pm_k_si, pm_k_sj, pm_k_sp, pm_k_sx, pm_k_sz, pm_k_sr, pm_k_sy]); assumption) pm_f_X4_25 dX4_takeCatch_1 ?_
  rw [hn]
  refine pm_if_gt (tgt := 9) dX4_takeCatch_4 (by decide) (fun h4 => ?_) (fun h4 => ?_)
  · skip
    have h9 : 0 < n := (pm_0lt (by omega)).mp h4
    refine pm_aload_n dX4_takeCatch_9 rfl ?_
    refine pm_dup dX4_takeCatch_10 ?_
    refine pm_g_Trail_catchCount (by (try simp only [pm_k_si, pm_k_sj, pm_k_sp, pm_k_sx, pm_k_sz, pm_k_sr, pm_k_sy]); assumption) pm_f_X4_25 dX4_takeCatch_11 ?_
    refine pm_iconst (v := 1) dX4_takeCatch_14 (by decide) ?_
    refine pm_isub dX4_takeCatch_15 ?_
    rw [hn, show nI n - 1 = nI (n - 1) from by rw [show (1 : Int32) = nI 1 from rfl, pk_sub (by omega)]]
    refine pm_p_Trail_catchCount (by (try simp only [pm_k_si, pm_k_sj, pm_k_sp, pm_k_sx, pm_k_sz, pm_k_sr, pm_k_sy]); assumption) pm_f_X4_25 dX4_takeCatch_16 ?_
    refine pm_aload_n dX4_takeCatch_19 rfl ?_
    refine pm_aload_n dX4_takeCatch_20 rfl ?_
    refine pm_g_Trail_backCount (by (try simp only [pm_k_si, pm_k_sj, pm_k_sp, pm_k_sx, pm_k_sz, pm_k_sr, pm_k_sy]); assumption) pm_f_X4_21 dX4_takeCatch_21 ?_
    refine pm_aload_n dX4_takeCatch_24 rfl ?_
    refine pm_g_Trail_backsAtCatch (by (try simp only [pm_k_si, pm_k_sj, pm_k_sp, pm_k_sx, pm_k_sz, pm_k_sr, pm_k_sy]); assumption) pm_f_X4_18 (by (try simp only [pm_p_si, pm_p_sj, pm_p_sx, pm_p_sz, pm_p_sr, pm_p_sy]); assumption) dX4_takeCatch_25 ?_
    refine pm_aload_n dX4_takeCatch_28 rfl ?_
    refine pm_g_Trail_catchCount (by (try simp only [pm_k_si, pm_k_sj, pm_k_sp, pm_k_sx, pm_k_sz, pm_k_sr, pm_k_sy]); assumption) pm_f_X4_25 dX4_takeCatch_29 ?_
    rw [show pm_i (pm_si S 204 v (nI (n - 1))) 203 v = nI m from hm, pm_i_si, if_pos ⟨rfl, rfl⟩]
    refine pm_iaload (n := n - 1) (by (try simp only [pm_k_si, pm_k_sj, pm_k_sp, pm_k_sx, pm_k_sz, pm_k_sr, pm_k_sy]); assumption) rfl (by first | omega | (simp only [pm_n_sx, pm_n_si, pm_n_sr, pm_n_sz, pm_n_sp, pm_n_sj, pm_n_sy]; omega)) (by first | omega | (simp only [pm_n_sx, pm_n_si, pm_n_sr, pm_n_sz, pm_n_sp, pm_n_sj, pm_n_sy]; omega)) dX4_takeCatch_32 ?_
    rw [pm_x_si, hek h9]
    refine pm_ssi (c_J9_min G l bs _ _ _) pm_y_J9_min_7cf53 pm_s_J9_min_7cf53 pm_m_X4_28 dX4_takeCatch_33 rfl rfl (by decide) (Nat.le_of_ble_eq_true rfl) (fun x33 S33 h33 => ?_)
    obtain ⟨rfl, rfl⟩ := h33
    rw [pm_minI (by omega) (by omega)]
    refine pm_p_Trail_backCount (by (try simp only [pm_k_si, pm_k_sj, pm_k_sp, pm_k_sx, pm_k_sz, pm_k_sr, pm_k_sy]); assumption) pm_f_X4_21 dX4_takeCatch_36 ?_
    refine pm_aload_n dX4_takeCatch_39 rfl ?_
    refine pm_g_Trail_catches (by (try simp only [pm_k_si, pm_k_sj, pm_k_sp, pm_k_sx, pm_k_sz, pm_k_sr, pm_k_sy]); assumption) pm_f_X4_15 (by (try simp only [pm_p_si, pm_p_sj, pm_p_sx, pm_p_sz, pm_p_sr, pm_p_sy]); assumption) dX4_takeCatch_40 ?_
    refine pm_aload_n dX4_takeCatch_43 rfl ?_
    refine pm_g_Trail_catchCount (by (try simp only [pm_k_si, pm_k_sj, pm_k_sp, pm_k_sx, pm_k_sz, pm_k_sr, pm_k_sy]); assumption) pm_f_X4_25 dX4_takeCatch_44 ?_
    rw [show pm_i (pm_si (pm_si S 204 v (nI (n - 1))) 203 v (nI (min m k))) 204 v = pm_i (pm_si S 204 v (nI (n - 1))) 204 v from rfl, pm_i_si, if_pos ⟨rfl, rfl⟩]
    refine pm_iaload (n := n - 1) (by (try simp only [pm_k_si, pm_k_sj, pm_k_sp, pm_k_sx, pm_k_sz, pm_k_sr, pm_k_sy]); assumption) rfl (by first | omega | (simp only [pm_n_sx, pm_n_si, pm_n_sr, pm_n_sz, pm_n_sp, pm_n_sj, pm_n_sy]; omega)) (by first | omega | (simp only [pm_n_sx, pm_n_si, pm_n_sr, pm_n_sz, pm_n_sp, pm_n_sj, pm_n_sy]; omega)) dX4_takeCatch_47 ?_
    subst hQ9
    refine pm_iret dX4_takeCatch_48 ?_
    exact Or.inr ⟨h9, rfl, rfl⟩
  · skip
    have h9 : n = 0 := by rcases Nat.eq_zero_or_pos n with q | q; exact q; exact absurd ((pm_0lt (by omega)).mpr q) h4
    refine pm_iconst (v := (-1)) dX4_takeCatch_7 (by decide) ?_
    subst hQ9
    refine pm_iret dX4_takeCatch_8 ?_
    exact Or.inl ⟨h9, rfl, rfl⟩

set_option maxHeartbeats 4000000 in
set_option maxRecDepth 100000 in
theorem c_X4_clear (G : pm_G) (l : Launch) (bs : Nat) (v : Nat) (S : pm_S) (hk : pm_k S v = 5) : pm_M G l bs yX4_clear cX4_clear 1 none 0 0 0 [.ref v] S (pm_qv (fun S2 => S2 = pm_si (pm_si S 203 v 0) 204 v 0)) := by
  refine pm_Mv (L := [.ref v]) false (by decide +kernel) (fun h => by cases h) rfl (pm_en_1 rfl (pm_en_0 rfl)) ?_
  generalize hQ9 : pm_xv (fun S2 => S2 = pm_si (pm_si S 203 v 0) 204 v 0) = Q9
  refine pm_aload_n dX4_clear_0 rfl ?_
  refine pm_iconst (v := 0) dX4_clear_1 (by decide) ?_
  refine pm_p_Trail_backCount (by (try simp only [pm_k_si, pm_k_sj, pm_k_sp, pm_k_sx, pm_k_sz, pm_k_sr, pm_k_sy]); assumption) pm_f_X4_21 dX4_clear_2 ?_
  refine pm_aload_n dX4_clear_5 rfl ?_
  refine pm_iconst (v := 0) dX4_clear_6 (by decide) ?_
  refine pm_p_Trail_catchCount (by (try simp only [pm_k_si, pm_k_sj, pm_k_sp, pm_k_sx, pm_k_sz, pm_k_sr, pm_k_sy]); assumption) pm_f_X4_25 dX4_clear_7 ?_
  subst hQ9
  refine pm_vret dX4_clear_10 ?_
  rfl

set_option maxHeartbeats 4000000 in
set_option maxRecDepth 100000 in
theorem c_X4_init (G : pm_G) (l : Launch) (bs : Nat) (v : Nat) (S : pm_S) (hk : pm_k S v = 5) : pm_M G l bs yX4_init cX4_init 1 none 1 3 32 [.ref v] S (pm_qv (fun S2 => ∃ b c e, pm_k S b = 0 ∧ bs ≤ b ∧ pm_k (pm_sp (pm_nw S b 9 16) 200 v (some b)) c = 0 ∧ bs ≤ c ∧ pm_k (pm_sp (pm_nw (pm_sp (pm_nw S b 9 16) 200 v (some b)) c 9 8) 201 v (some c)) e = 0 ∧ bs ≤ e ∧ S2 = pm_si (pm_si (pm_sp (pm_nw (pm_sp (pm_nw (pm_sp (pm_nw S b 9 16) 200 v (some b)) c 9 8) 201 v (some c)) e 9 8) 202 v (some e)) 203 v 0) 204 v 0)) := by
  refine pm_Mv (L := [.ref v]) true (by decide +kernel) (fun _ => rfl) rfl (pm_en_1 rfl (pm_en_0 rfl)) ?_
  generalize hQ9 : pm_xv (fun S2 => ∃ b c e, pm_k S b = 0 ∧ bs ≤ b ∧ pm_k (pm_sp (pm_nw S b 9 16) 200 v (some b)) c = 0 ∧ bs ≤ c ∧ pm_k (pm_sp (pm_nw (pm_sp (pm_nw S b 9 16) 200 v (some b)) c 9 8) 201 v (some c)) e = 0 ∧ bs ≤ e ∧ S2 = pm_si (pm_si (pm_sp (pm_nw (pm_sp (pm_nw (pm_sp (pm_nw S b 9 16) 200 v (some b)) c 9 8) 201 v (some c)) e 9 8) 202 v (some e)) 203 v 0) 204 v 0) = Q9
  refine pm_aload_n dX4_init_0 rfl ?_
  refine pm_objInit pm_m_X4_3 pm_oi pm_oc (by decide) (Nat.le_of_ble_eq_true rfl) dX4_init_1 ?_
  refine pm_aload_n dX4_init_4 rfl ?_
  refine pm_bipush (v := 16) dX4_init_5 (by decide) ?_
  refine pm_newarrI (N := 16) rfl (by decide) pm_ac_int (kc' := 2) (ks' := 16) (by decide) (by decide) dX4_init_7 (fun r7 hf7 hb7 => ?_)
  have n7 : v ≠ r7 := fun e => by subst e; simp only [pm_k_sp, pm_k_nw, hk] at hf7; exact absurd hf7 (by decide)
  refine pm_p_Trail_backs (by simp only [pm_k_si, pm_k_sp, pm_k_nw, if_neg n7]; exact hk) pm_f_X4_11 rfl rfl pm_fw_X4_11 dX4_init_9 ?_
  refine pm_aload_n dX4_init_12 rfl ?_
  refine pm_bipush (v := 8) dX4_init_13 (by decide) ?_
  refine pm_newarrI (N := 8) rfl (by decide) pm_ac_int (kc' := 1) (ks' := 8) (by decide) (by decide) dX4_init_15 (fun r15 hf15 hb15 => ?_)
  have n15 : v ≠ r15 := fun e => by subst e; simp only [pm_k_sp, pm_k_nw, if_neg n7, hk] at hf15; exact absurd hf15 (by decide)
  refine pm_p_Trail_catches (by simp only [pm_k_si, pm_k_sp, pm_k_nw, if_neg n7, if_neg n15]; exact hk) pm_f_X4_15 rfl rfl pm_fw_X4_15 dX4_init_17 ?_
  refine pm_aload_n dX4_init_20 rfl ?_
  refine pm_bipush (v := 8) dX4_init_21 (by decide) ?_
  refine pm_newarrI (N := 8) rfl (by decide) pm_ac_int (kc' := 0) (ks' := 0) (by decide) (by decide) dX4_init_23 (fun r23 hf23 hb23 => ?_)
  have n23 : v ≠ r23 := fun e => by subst e; simp only [pm_k_sp, pm_k_nw, if_neg n7, if_neg n15, hk] at hf23; exact absurd hf23 (by decide)
  refine pm_p_Trail_backsAtCatch (by simp only [pm_k_si, pm_k_sp, pm_k_nw, if_neg n7, if_neg n15, if_neg n23]; exact hk) pm_f_X4_18 rfl rfl pm_fw_X4_18 dX4_init_25 ?_
  refine pm_aload_n dX4_init_28 rfl ?_
  refine pm_iconst (v := 0) dX4_init_29 (by decide) ?_
  refine pm_p_Trail_backCount (by simp only [pm_k_si, pm_k_sp, pm_k_nw, if_neg n7, if_neg n15, if_neg n23]; exact hk) pm_f_X4_21 dX4_init_30 ?_
  refine pm_aload_n dX4_init_33 rfl ?_
  refine pm_iconst (v := 0) dX4_init_34 (by decide) ?_
  refine pm_p_Trail_catchCount (by simp only [pm_k_si, pm_k_sp, pm_k_nw, if_neg n7, if_neg n15, if_neg n23]; exact hk) pm_f_X4_25 dX4_init_35 ?_
  subst hQ9
  refine pm_vret dX4_init_38 ?_
  exact ⟨r7, r15, r23, hf7, hb7, hf15, hb15, hf23, hb23, rfl⟩

