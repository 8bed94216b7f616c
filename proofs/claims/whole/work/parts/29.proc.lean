/-! Proc: small methods -/
def pm_bit (k : Nat) : Int64 := (1 : Int64) <<< ((nI k).toInt64 &&& 63)
theorem pm_bit_get : ∀ k, k < 64 → (pm_bit k).toBitVec = BitVec.twoPow 64 k := by decide +kernel
theorem pm_bit_g {k i : Nat} (hk : k < 64) : (pm_bit k).toBitVec.getLsbD i = decide (i = k ∧ i < 64) := by
  rw [pm_bit_get k hk, BitVec.getLsbD_twoPow]
  by_cases h : i = k
  · subst h
    simp [hk]
  · simp [h, Ne.symm h]
/-- the bits of a long -/
def pm_lb (v : Int64) (i : Nat) : Bool := v.toBitVec.getLsbD i
theorem pm_lb_or {v : Int64} {k i : Nat} (hk : k < 64) : pm_lb (v ||| pm_bit k) i = (pm_lb v i || decide (i = k)) := by
  unfold pm_lb
  rw [Int64.toBitVec_or, BitVec.getLsbD_or, pm_bit_g hk]
  by_cases h : i = k
  · subst h
    simp [hk]
  · simp [h]
theorem pm_lb_off {v : Int64} {k i : Nat} (hk : k < 64) (hi : i < 64) : pm_lb (v &&& (pm_bit k ^^^ (-1))) i = (pm_lb v i && !decide (i = k)) := by
  unfold pm_lb
  rw [Int64.toBitVec_and, BitVec.getLsbD_and, Int64.toBitVec_xor, BitVec.getLsbD_xor, pm_bit_g hk, show (-1 : Int64).toBitVec = BitVec.allOnes 64 from by decide +kernel, BitVec.getLsbD_allOnes]
  by_cases h : i = k
  · subst h
    simp [hk]
  · simp [h, hi]
theorem pm_lb_tst {v : Int64} {k : Nat} (hk : k < 64) : v &&& pm_bit k = 0 ↔ pm_lb v k = false := by
  constructor
  · intro h
    have h1 : pm_lb (v &&& pm_bit k) k = pm_lb 0 k := by rw [h]
    unfold pm_lb at h1 ⊢
    rw [Int64.toBitVec_and, BitVec.getLsbD_and, pm_bit_g hk] at h1
    simpa [hk] using h1
  · intro h
    refine Int64.toBitVec_inj.mp ?_
    rw [Int64.toBitVec_and]
    ext i hi
    rw [BitVec.getElem_and, ← BitVec.getLsbD_eq_getElem, ← BitVec.getLsbD_eq_getElem, pm_bit_g hk]
    by_cases e : i = k
    · subst e
      unfold pm_lb at h
      rw [h]
      simp
    · simp [e]
theorem lg_cmp0 {x : Int64} : lg_cmp x 0 = 0 ↔ x = 0 := by
  unfold lg_cmp
  constructor
  · intro h
    by_cases h1 : x > 0
    · rw [if_pos h1] at h; cases h
    · rw [if_neg h1] at h
      by_cases h2 : x = 0
      · exact h2
      · rw [if_neg h2] at h; cases h
  · rintro rfl
    decide
set_option maxHeartbeats 4000000 in
set_option maxRecDepth 100000 in
theorem c_X1_x (G : pm_G) (l : Launch) (bs : Nat) (v a : Nat) (i : Int32) (S : pm_S) (hk : pm_k S v = 2) (hp : pm_p S 52 v = some a) (hka : pm_k S a = 13) (hna : pm_n S a = 8) : pm_M G l bs yX1_x cX1_x 2 (some (.object "ProcessMill$Term")) 1 0 0 [.ref v, .int i] S (pm_qr (fun x S2 => x = pm_z S a (pm_mod i 8) ∧ S2 = S)) := by
  refine pm_Mr (L := [.ref v, .int i]) (by decide +kernel) rfl (pm_en_1 rfl (pm_en_1 rfl (pm_en_0 rfl))) ?_
  generalize hQ9 : pm_xr (fun x S2 => x = pm_z S a (pm_mod i 8) ∧ S2 = S) = Q9
  refine pm_aload_n dX1_x_0 rfl ?_
  refine pm_g_Proc_registers (by (try simp only [pm_k_si, pm_k_sj, pm_k_sp, pm_k_sx, pm_k_sz, pm_k_sr, pm_k_sy]); assumption) pm_f_X1_11 (by (try simp only [pm_p_si, pm_p_sj, pm_p_sx, pm_p_sz, pm_p_sr, pm_p_sy]); assumption) dX1_x_1 ?_
  refine pm_iload_n dX1_x_4 rfl ?_
  refine pm_bipush (v := 8) dX1_x_5 (by decide) ?_
  refine pm_ssi (c_J9_floorMod G l bs i 8 S (by decide) (by decide)) pm_y_J9_floorMod_7cf53 pm_s_J9_floorMod_7cf53 pm_m_X1_77 dX1_x_7 rfl rfl (by decide) (Nat.le_of_ble_eq_true rfl) (fun x7 S7 h7 => ?_)
  obtain ⟨rfl, rfl⟩ := h7
  refine pm_aaloadT (n := pm_mod i 8) (by (try simp only [pm_k_si, pm_k_sj, pm_k_sp, pm_k_sx, pm_k_sz, pm_k_sr, pm_k_sy]); assumption) rfl (by have := pm_mod_lt i (d := 8) (by decide); omega) (by first | omega | (simp only [pm_n_sx, pm_n_si, pm_n_sr, pm_n_sz, pm_n_sp, pm_n_sj, pm_n_sy]; omega)) dX1_x_10 ?_
  subst hQ9
  refine pm_aretr dX1_x_11 ?_
  exact ⟨rfl, rfl⟩

set_option maxHeartbeats 4000000 in
set_option maxRecDepth 100000 in
theorem c_X1_beginToWait (G : pm_G) (l : Launch) (bs : Nat) (v : Nat) (a b : Int32) (u : Int64) (S : pm_S) (hk : pm_k S v = 2) : pm_M G l bs yX1_beginToWait cX1_beginToWait 5 none 0 0 0 [.ref v, .int a, .int b, .long u] S (pm_qv (fun S2 => S2 = pm_sj (pm_si (pm_si (pm_si S 56 v 1) 58 v a) 59 v b) 60 v u)) := by
  refine pm_Mv (L := [.ref v, .int a, .int b, .long u, pm_u]) false (by decide +kernel) (fun h => by cases h) rfl (pm_en_1 rfl (pm_en_1 rfl (pm_en_1 rfl (pm_en_2 rfl (pm_en_0 rfl))))) ?_
  generalize hQ9 : pm_xv (fun S2 => S2 = pm_sj (pm_si (pm_si (pm_si S 56 v 1) 58 v a) 59 v b) 60 v u) = Q9
  refine pm_aload_n dX1_beginToWait_0 rfl ?_
  refine pm_iconst (v := 1) dX1_beginToWait_1 (by decide) ?_
  refine pm_p_Proc_state (by (try simp only [pm_k_si, pm_k_sj, pm_k_sp, pm_k_sx, pm_k_sz, pm_k_sr, pm_k_sy]); assumption) pm_f_X1_36 dX1_beginToWait_2 ?_
  refine pm_aload_n dX1_beginToWait_5 rfl ?_
  refine pm_iload_n dX1_beginToWait_6 rfl ?_
  refine pm_p_Proc_atIfMail (by (try simp only [pm_k_si, pm_k_sj, pm_k_sp, pm_k_sx, pm_k_sz, pm_k_sr, pm_k_sy]); assumption) pm_f_X1_43 dX1_beginToWait_7 ?_
  refine pm_aload_n dX1_beginToWait_10 rfl ?_
  refine pm_iload_n dX1_beginToWait_11 rfl ?_
  refine pm_p_Proc_atIfLate (by (try simp only [pm_k_si, pm_k_sj, pm_k_sp, pm_k_sx, pm_k_sz, pm_k_sr, pm_k_sy]); assumption) pm_f_X1_46 dX1_beginToWait_12 ?_
  refine pm_aload_n dX1_beginToWait_15 rfl ?_
  refine pm_lload_n dX1_beginToWait_16 rfl ?_
  refine pm_p_Proc_deadline (by (try simp only [pm_k_si, pm_k_sj, pm_k_sp, pm_k_sx, pm_k_sz, pm_k_sr, pm_k_sy]); assumption) pm_f_X1_51 dX1_beginToWait_17 ?_
  subst hQ9
  refine pm_vret dX1_beginToWait_20 ?_
  rfl

set_option maxHeartbeats 4000000 in
set_option maxRecDepth 100000 in
theorem c_X1_comesBefore (G : pm_G) (l : Launch) (bs : Nat) (v w : Nat) (b : Int32) (S : pm_S) (hk : pm_k S v = 2) (hk2 : pm_k S w = 2) : pm_M G l bs yX1_comesBefore cX1_comesBefore 3 (some .boolean) 0 0 0 [.ref v, .ref w, .int b] S (pm_qi (fun x S2 => x = (if pm_i S 51 v = pm_i S 51 w then (if pm_i S 61 w ≤ pm_i S 61 v then 0 else 1) else if b = (if pm_i S 51 v ≤ pm_i S 51 w then 0 else 1) then 1 else 0) ∧ S2 = S)) := by
  refine pm_Mz (L := [.ref v, .ref w, .int b]) (by decide +kernel) rfl (pm_en_1 rfl (pm_en_1 rfl (pm_en_1 rfl (pm_en_0 rfl)))) ?_
  generalize hQ9 : pm_xz (fun x S2 => x = (if pm_i S 51 v = pm_i S 51 w then (if pm_i S 61 w ≤ pm_i S 61 v then 0 else 1) else if b = (if pm_i S 51 v ≤ pm_i S 51 w then 0 else 1) then 1 else 0) ∧ S2 = S) = Q9
  refine pm_aload_n dX1_comesBefore_0 rfl ?_
  refine pm_g_Proc_priority (by (try simp only [pm_k_si, pm_k_sj, pm_k_sp, pm_k_sx, pm_k_sz, pm_k_sr, pm_k_sy]); assumption) pm_f_X1_74 dX1_comesBefore_1 ?_
  refine pm_aload_n dX1_comesBefore_4 rfl ?_
  refine pm_g_Proc_priority (by (try simp only [pm_k_si, pm_k_sj, pm_k_sp, pm_k_sx, pm_k_sz, pm_k_sr, pm_k_sy]); assumption) pm_f_X1_74 dX1_comesBefore_5 ?_
  refine pm_icmp_eq (tgt := 37) dX1_comesBefore_8 (by decide) (fun h8 => ?_) (fun h8 => ?_)
  · skip
    refine pm_aload_n dX1_comesBefore_37 rfl ?_
    refine pm_g_Proc_turn (by (try simp only [pm_k_si, pm_k_sj, pm_k_sp, pm_k_sx, pm_k_sz, pm_k_sr, pm_k_sy]); assumption) pm_f_X1_55 dX1_comesBefore_38 ?_
    refine pm_aload_n dX1_comesBefore_41 rfl ?_
    refine pm_g_Proc_turn (by (try simp only [pm_k_si, pm_k_sj, pm_k_sp, pm_k_sx, pm_k_sz, pm_k_sr, pm_k_sy]); assumption) pm_f_X1_55 dX1_comesBefore_42 ?_
    refine pm_icmp_ge (tgt := 52) dX1_comesBefore_45 (by decide) (fun h45 => ?_) (fun h45 => ?_)
    · skip
      refine pm_iconst (v := 0) dX1_comesBefore_52 (by decide) ?_
      subst hQ9
      refine pm_zret dX1_comesBefore_53 (by first | exact Or.inl rfl | exact Or.inr rfl | assumption) ?_
      refine ⟨?_, rfl⟩
      first | simp only [h8, h45, if_true, if_false] | simp only [h8, h20, h28, if_true, if_false]
    · skip
      refine pm_iconst (v := 1) dX1_comesBefore_48 (by decide) ?_
      refine pm_goto (tgt := 53) dX1_comesBefore_49 (by decide) ?_
      subst hQ9
      refine pm_zret dX1_comesBefore_53 (by first | exact Or.inl rfl | exact Or.inr rfl | assumption) ?_
      refine ⟨?_, rfl⟩
      first | simp only [h8, h45, if_true, if_false] | simp only [h8, h20, h28, if_true, if_false]
  · skip
    refine pm_iload_n dX1_comesBefore_11 rfl ?_
    refine pm_aload_n dX1_comesBefore_12 rfl ?_
    refine pm_g_Proc_priority (by (try simp only [pm_k_si, pm_k_sj, pm_k_sp, pm_k_sx, pm_k_sz, pm_k_sr, pm_k_sy]); assumption) pm_f_X1_74 dX1_comesBefore_13 ?_
    refine pm_aload_n dX1_comesBefore_16 rfl ?_
    refine pm_g_Proc_priority (by (try simp only [pm_k_si, pm_k_sj, pm_k_sp, pm_k_sx, pm_k_sz, pm_k_sr, pm_k_sy]); assumption) pm_f_X1_74 dX1_comesBefore_17 ?_
    refine pm_icmp_le (tgt := 27) dX1_comesBefore_20 (by decide) (fun h20 => ?_) (fun h20 => ?_)
    · skip
      refine pm_iconst (v := 0) dX1_comesBefore_27 (by decide) ?_
      refine pm_icmp_ne (tgt := 35) dX1_comesBefore_28 (by decide) (fun h28 => ?_) (fun h28 => ?_)
      · skip
        refine pm_iconst (v := 0) dX1_comesBefore_35 (by decide) ?_
        subst hQ9
        refine pm_zret dX1_comesBefore_36 (by first | exact Or.inl rfl | exact Or.inr rfl | assumption) ?_
        refine ⟨?_, rfl⟩
        first | simp only [h8, h45, if_true, if_false] | simp only [h8, h20, h28, if_true, if_false]
      · skip
        refine pm_iconst (v := 1) dX1_comesBefore_31 (by decide) ?_
        refine pm_goto (tgt := 36) dX1_comesBefore_32 (by decide) ?_
        subst hQ9
        refine pm_zret dX1_comesBefore_36 (by first | exact Or.inl rfl | exact Or.inr rfl | assumption) ?_
        refine ⟨?_, rfl⟩
        first | simp only [h8, h45, if_true, if_false] | simp only [h8, h20, h28, if_true, if_false]
    · skip
      refine pm_iconst (v := 1) dX1_comesBefore_23 (by decide) ?_
      refine pm_goto (tgt := 28) dX1_comesBefore_24 (by decide) ?_
      refine pm_icmp_ne (tgt := 35) dX1_comesBefore_28 (by decide) (fun h28 => ?_) (fun h28 => ?_)
      · skip
        refine pm_iconst (v := 0) dX1_comesBefore_35 (by decide) ?_
        subst hQ9
        refine pm_zret dX1_comesBefore_36 (by first | exact Or.inl rfl | exact Or.inr rfl | assumption) ?_
        refine ⟨?_, rfl⟩
        first | simp only [h8, h45, if_true, if_false] | simp only [h8, h20, h28, if_true, if_false]
      · skip
        refine pm_iconst (v := 1) dX1_comesBefore_31 (by decide) ?_
        refine pm_goto (tgt := 36) dX1_comesBefore_32 (by decide) ?_
        subst hQ9
        refine pm_zret dX1_comesBefore_36 (by first | exact Or.inl rfl | exact Or.inr rfl | assumption) ?_
        refine ⟨?_, rfl⟩
        first | simp only [h8, h45, if_true, if_false] | simp only [h8, h20, h28, if_true, if_false]

set_option maxHeartbeats 4000000 in
set_option maxRecDepth 100000 in
theorem c_X1_isLinkedWith (G : pm_G) (l : Launch) (bs : Nat) (v w k : Nat) (S : pm_S) (hk : pm_k S v = 2) (hk2 : pm_k S w = 2) (hp : pm_i S 50 w = nI k) (hk3 : k < 64) : pm_M G l bs yX1_isLinkedWith cX1_isLinkedWith 2 (some .boolean) 0 0 0 [.ref v, .ref w] S (pm_qi (fun x S2 => x = (if pm_lb (pm_j S 64 v) k = true then 1 else 0) ∧ S2 = S)) := by
  refine pm_Mz (L := [.ref v, .ref w]) (by decide +kernel) rfl (pm_en_1 rfl (pm_en_1 rfl (pm_en_0 rfl))) ?_
  generalize hQ9 : pm_xz (fun x S2 => x = (if pm_lb (pm_j S 64 v) k = true then 1 else 0) ∧ S2 = S) = Q9
  refine pm_aload_n dX1_isLinkedWith_0 rfl ?_
  refine pm_g_Proc_links (by (try simp only [pm_k_si, pm_k_sj, pm_k_sp, pm_k_sx, pm_k_sz, pm_k_sr, pm_k_sy]); assumption) pm_f_X1_65 dX1_isLinkedWith_1 ?_
  refine pm_lconst (v := 1) dX1_isLinkedWith_4 (by decide) ?_
  refine pm_aload_n dX1_isLinkedWith_5 rfl ?_
  refine pm_g_Proc_pid (by (try simp only [pm_k_si, pm_k_sj, pm_k_sp, pm_k_sx, pm_k_sz, pm_k_sr, pm_k_sy]); assumption) pm_f_X1_71 dX1_isLinkedWith_6 ?_
  rw [hp]
  refine pm_lshl dX1_isLinkedWith_9 ?_
  refine pm_land dX1_isLinkedWith_10 ?_
  refine pm_lconst (v := 0) dX1_isLinkedWith_11 (by decide) ?_
  refine pm_lcmp dX1_isLinkedWith_12 ?_
  refine pm_if_eq (tgt := 20) dX1_isLinkedWith_13 (by decide) (fun h13 => ?_) (fun h13 => ?_)
  · skip
    have h9 : pm_lb (pm_j S 64 v) k = false := (pm_lb_tst hk3).mp (lg_cmp0.mp h13)
    refine pm_iconst (v := 0) dX1_isLinkedWith_20 (by decide) ?_
    subst hQ9
    refine pm_zret dX1_isLinkedWith_21 (by first | exact Or.inl rfl | exact Or.inr rfl | assumption) ?_
    refine ⟨?_, rfl⟩
    first | (rw [if_neg (by rw [h9]; decide)]; done) | (rw [if_pos (by cases q : pm_lb (pm_j S 64 v) k; exact absurd q h9; rfl)]; done)
  · skip
    have h9 : ¬ pm_lb (pm_j S 64 v) k = false := fun z => h13 (lg_cmp0.mpr ((pm_lb_tst hk3).mpr z))
    refine pm_iconst (v := 1) dX1_isLinkedWith_16 (by decide) ?_
    refine pm_goto (tgt := 21) dX1_isLinkedWith_17 (by decide) ?_
    subst hQ9
    refine pm_zret dX1_isLinkedWith_21 (by first | exact Or.inl rfl | exact Or.inr rfl | assumption) ?_
    refine ⟨?_, rfl⟩
    first | (rw [if_neg (by rw [h9]; decide)]; done) | (rw [if_pos (by cases q : pm_lb (pm_j S 64 v) k; exact absurd q h9; rfl)]; done)

set_option maxHeartbeats 4000000 in
set_option maxRecDepth 100000 in
theorem c_X1_linkWith (G : pm_G) (l : Launch) (bs : Nat) (v w j k : Nat) (S : pm_S) (hk : pm_k S v = 2) (hk2 : pm_k S w = 2) (hp1 : pm_i S 50 v = nI j) (hp2 : pm_i S 50 w = nI k) : pm_M G l bs yX1_linkWith cX1_linkWith 2 none 0 0 0 [.ref v, .ref w] S (pm_qv (fun S2 => S2 = pm_sj (pm_sj S 64 v (pm_j S 64 v ||| pm_bit k)) 64 w (pm_j (pm_sj S 64 v (pm_j S 64 v ||| pm_bit k)) 64 w ||| pm_bit j))) := by
  refine pm_Mv (L := [.ref v, .ref w]) false (by decide +kernel) (fun h => by cases h) rfl (pm_en_1 rfl (pm_en_1 rfl (pm_en_0 rfl))) ?_
  generalize hQ9 : pm_xv (fun S2 => S2 = pm_sj (pm_sj S 64 v (pm_j S 64 v ||| pm_bit k)) 64 w (pm_j (pm_sj S 64 v (pm_j S 64 v ||| pm_bit k)) 64 w ||| pm_bit j)) = Q9
  refine pm_aload_n dX1_linkWith_0 rfl ?_
  refine pm_dup dX1_linkWith_1 ?_
  refine pm_g_Proc_links (by (try simp only [pm_k_si, pm_k_sj, pm_k_sp, pm_k_sx, pm_k_sz, pm_k_sr, pm_k_sy]); assumption) pm_f_X1_65 dX1_linkWith_2 ?_
  refine pm_lconst (v := 1) dX1_linkWith_5 (by decide) ?_
  refine pm_aload_n dX1_linkWith_6 rfl ?_
  refine pm_g_Proc_pid (by (try simp only [pm_k_si, pm_k_sj, pm_k_sp, pm_k_sx, pm_k_sz, pm_k_sr, pm_k_sy]); assumption) pm_f_X1_71 dX1_linkWith_7 ?_
  rw [hp2]
  refine pm_lshl dX1_linkWith_10 ?_
  refine pm_lor dX1_linkWith_11 ?_
  refine pm_p_Proc_links (by (try simp only [pm_k_si, pm_k_sj, pm_k_sp, pm_k_sx, pm_k_sz, pm_k_sr, pm_k_sy]); assumption) pm_f_X1_65 dX1_linkWith_12 ?_
  refine pm_aload_n dX1_linkWith_15 rfl ?_
  refine pm_dup dX1_linkWith_16 ?_
  refine pm_g_Proc_links (by (try simp only [pm_k_si, pm_k_sj, pm_k_sp, pm_k_sx, pm_k_sz, pm_k_sr, pm_k_sy]); assumption) pm_f_X1_65 dX1_linkWith_17 ?_
  refine pm_lconst (v := 1) dX1_linkWith_20 (by decide) ?_
  refine pm_aload_n dX1_linkWith_21 rfl ?_
  refine pm_g_Proc_pid (by (try simp only [pm_k_si, pm_k_sj, pm_k_sp, pm_k_sx, pm_k_sz, pm_k_sr, pm_k_sy]); assumption) pm_f_X1_71 dX1_linkWith_22 ?_
  rw [show pm_i (pm_sj S 64 v _) 50 v = nI j from hp1]
  refine pm_lshl dX1_linkWith_25 ?_
  refine pm_lor dX1_linkWith_26 ?_
  refine pm_p_Proc_links (by (try simp only [pm_k_si, pm_k_sj, pm_k_sp, pm_k_sx, pm_k_sz, pm_k_sr, pm_k_sy]); assumption) pm_f_X1_65 dX1_linkWith_27 ?_
  subst hQ9
  refine pm_vret dX1_linkWith_30 ?_
  rfl

set_option maxHeartbeats 4000000 in
set_option maxRecDepth 100000 in
theorem c_X1_unlinkFrom (G : pm_G) (l : Launch) (bs : Nat) (v w j k : Nat) (S : pm_S) (hk : pm_k S v = 2) (hk2 : pm_k S w = 2) (hp1 : pm_i S 50 v = nI j) (hp2 : pm_i S 50 w = nI k) : pm_M G l bs yX1_unlinkFrom cX1_unlinkFrom 2 none 0 0 0 [.ref v, .ref w] S (pm_qv (fun S2 => S2 = pm_sj (pm_sj S 64 v (pm_j S 64 v &&& (pm_bit k ^^^ (-1)))) 64 w (pm_j (pm_sj S 64 v (pm_j S 64 v &&& (pm_bit k ^^^ (-1)))) 64 w &&& (pm_bit j ^^^ (-1))))) := by
  refine pm_Mv (L := [.ref v, .ref w]) false (by decide +kernel) (fun h => by cases h) rfl (pm_en_1 rfl (pm_en_1 rfl (pm_en_0 rfl))) ?_
  generalize hQ9 : pm_xv (fun S2 => S2 = pm_sj (pm_sj S 64 v (pm_j S 64 v &&& (pm_bit k ^^^ (-1)))) 64 w (pm_j (pm_sj S 64 v (pm_j S 64 v &&& (pm_bit k ^^^ (-1)))) 64 w &&& (pm_bit j ^^^ (-1)))) = Q9
  refine pm_aload_n dX1_unlinkFrom_0 rfl ?_
  refine pm_dup dX1_unlinkFrom_1 ?_
  refine pm_g_Proc_links (by (try simp only [pm_k_si, pm_k_sj, pm_k_sp, pm_k_sx, pm_k_sz, pm_k_sr, pm_k_sy]); assumption) pm_f_X1_65 dX1_unlinkFrom_2 ?_
  refine pm_lconst (v := 1) dX1_unlinkFrom_5 (by decide) ?_
  refine pm_aload_n dX1_unlinkFrom_6 rfl ?_
  refine pm_g_Proc_pid (by (try simp only [pm_k_si, pm_k_sj, pm_k_sp, pm_k_sx, pm_k_sz, pm_k_sr, pm_k_sy]); assumption) pm_f_X1_71 dX1_unlinkFrom_7 ?_
  rw [hp2]
  refine pm_lshl dX1_unlinkFrom_10 ?_
  refine pm_ldc2 pm_cl_X1_83 dX1_unlinkFrom_11 ?_
  refine pm_lxor dX1_unlinkFrom_14 ?_
  refine pm_land dX1_unlinkFrom_15 ?_
  refine pm_p_Proc_links (by (try simp only [pm_k_si, pm_k_sj, pm_k_sp, pm_k_sx, pm_k_sz, pm_k_sr, pm_k_sy]); assumption) pm_f_X1_65 dX1_unlinkFrom_16 ?_
  refine pm_aload_n dX1_unlinkFrom_19 rfl ?_
  refine pm_dup dX1_unlinkFrom_20 ?_
  refine pm_g_Proc_links (by (try simp only [pm_k_si, pm_k_sj, pm_k_sp, pm_k_sx, pm_k_sz, pm_k_sr, pm_k_sy]); assumption) pm_f_X1_65 dX1_unlinkFrom_21 ?_
  refine pm_lconst (v := 1) dX1_unlinkFrom_24 (by decide) ?_
  refine pm_aload_n dX1_unlinkFrom_25 rfl ?_
  refine pm_g_Proc_pid (by (try simp only [pm_k_si, pm_k_sj, pm_k_sp, pm_k_sx, pm_k_sz, pm_k_sr, pm_k_sy]); assumption) pm_f_X1_71 dX1_unlinkFrom_26 ?_
  rw [show pm_i (pm_sj S 64 v _) 50 v = nI j from hp1]
  refine pm_lshl dX1_unlinkFrom_29 ?_
  refine pm_ldc2 pm_cl_X1_83 dX1_unlinkFrom_30 ?_
  refine pm_lxor dX1_unlinkFrom_33 ?_
  refine pm_land dX1_unlinkFrom_34 ?_
  refine pm_p_Proc_links (by (try simp only [pm_k_si, pm_k_sj, pm_k_sp, pm_k_sx, pm_k_sz, pm_k_sr, pm_k_sy]); assumption) pm_f_X1_65 dX1_unlinkFrom_35 ?_
  subst hQ9
  refine pm_vret dX1_unlinkFrom_38 ?_
  rfl

