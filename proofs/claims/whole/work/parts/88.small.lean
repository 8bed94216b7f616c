/-! the law's small methods: a call of the class, caught -/
set_option maxHeartbeats 4000000 in
set_option maxRecDepth 100000 in
theorem k_word (G : pm_G) (l : Launch) (hl : l.stackTraces = false) (bs : Nat) (x o9 : Nat) (p0 p1 p2 p3 p4 : Int32) (S : pm_S) (hk : pm_k S x = 7) (post : pm_S → Prop) (d' kc ks : Nat) (hd : d' + 1 ≤ 10) (hM : pm_M G l bs yX6_word cX6_word 7 none d' kc ks [.ref x, .int p0, .int p1, .int p2, .int p3, .int p4] S (pm_qv post)) : pm_ML G l bs yL_word cL_word 7 1 10 kc ks [.ref x, .int p0, .int p1, .int p2, .int p3, .int p4] S (fun r S3 => r = 0 ∧ post S3) := by
  refine pm_ML.mk (k := 1) (L := [.ref x, .int p0, .int p1, .int p2, .int p3, .int p4, pm_u]) hl (by decide +kernel) rfl (pm_en_1 rfl (pm_en_1 rfl (pm_en_1 rfl (pm_en_1 rfl (pm_en_1 rfl (pm_en_1 rfl (pm_en_0 rfl))))))) (by decide) (by decide +kernel) ?_
  refine pm_aload_n dL_word_0 rfl ?_
  refine pm_iload_n dL_word_1 rfl ?_
  refine pm_iload_n dL_word_2 rfl ?_
  refine pm_iload_n dL_word_3 rfl ?_
  refine pm_iload dL_word_4 rfl ?_
  refine pm_iload dL_word_6 rfl ?_
  refine pm_vvk (kc2 := 0) (ks2 := 0) hM pm_y_X6_word pm_v_X6_word pm_m_L_7 (c := 6) (r := (RX6, TX6, 16)) rfl rfl hk dL_word_8 rfl rfl hd (Nat.le_of_ble_eq_true rfl) (Nat.le_refl _) (Nat.le_refl _) (fun S2 h2 => ?_)
  refine pm_goto (tgt := 18) dL_word_11 (by decide) ?_
  refine pm_iconst (v := 0) dL_word_18 (by decide) ?_
  exact pm_lret dL_word_19 ⟨rfl, h2⟩
set_option maxHeartbeats 4000000 in
set_option maxRecDepth 100000 in
theorem f_word (G : pm_G) (l : Launch) (hl : l.stackTraces = false) (bs : Nat) (x o9 : Nat) (p0 p1 p2 p3 p4 : Int32) (S : pm_S) (hk : pm_k S x = 7) (hM : pm_T G l bs yX6_word cX6_word 7 none 6 pm_IA [.ref x, .int p0, .int p1, .int p2, .int p3, .int p4] S) : pm_ML G l bs yL_word cL_word 7 1 10 1 6 [.ref x, .int p0, .int p1, .int p2, .int p3, .int p4] S (fun r S3 => r = 1 ∧ S3 = S) := by
  refine pm_ML.mk (k := 1) (L := [.ref x, .int p0, .int p1, .int p2, .int p3, .int p4, pm_u]) hl (by decide +kernel) rfl (pm_en_1 rfl (pm_en_1 rfl (pm_en_1 rfl (pm_en_1 rfl (pm_en_1 rfl (pm_en_1 rfl (pm_en_0 rfl))))))) (by decide) (by decide +kernel) ?_
  refine pm_aload_n dL_word_0 rfl ?_
  refine pm_iload_n dL_word_1 rfl ?_
  refine pm_iload_n dL_word_2 rfl ?_
  refine pm_iload_n dL_word_3 rfl ?_
  refine pm_iload dL_word_4 rfl ?_
  refine pm_iload dL_word_6 rfl ?_
  refine pm_callT1 (k := 1) (st9 := []) (S9 := S) (Or.inr ⟨rfl, rfl⟩) (by decide) rfl (by decide) (by decide) pm_c_L_13 pm_caA hM pm_y_X6_word pm_v_X6_word pm_m_L_7 (c := 6) (r := (RX6, TX6, 16)) rfl rfl hk rfl (by decide) (by decide) (by decide) (Nat.le_of_ble_eq_true rfl) dL_word_8 rfl (fun q => ?_)
  refine pm_astore dL_word_14 (by decide) ?_
  dsimp only [List.set]
  refine pm_iconst (v := 1) dL_word_16 (by decide) ?_
  exact pm_lret dL_word_17 ⟨rfl, rfl⟩
set_option maxHeartbeats 4000000 in
set_option maxRecDepth 100000 in
theorem k_start (G : pm_G) (l : Launch) (hl : l.stackTraces = false) (bs : Nat) (x out : Nat) (p0 p1 : Int32) (S : pm_S) (hk : pm_k S x = 7) (post : Int32 → pm_S → Prop) (d' kc ks : Nat) (hd : d' + 1 ≤ 10) (ho : ∀ a S2, post a S2 → pm_k S2 out = 11 ∧ pm_n S2 out = 1) (hM : pm_M G l bs yX6_start cX6_start 3 (some .int) d' kc ks [.ref x, .int p0, .int p1] S (pm_qi post)) : pm_ML G l bs yL_start cL_start 5 2 10 kc ks [.ref x, .int p0, .int p1, .ref out] S (fun r S3 => r = 0 ∧ ∃ a S2, post a S2 ∧ S3 = pm_sy S2 out 0 a.toInt64) := by
  refine pm_ML.mk (k := 2) (L := [.ref x, .int p0, .int p1, .ref out, pm_u]) hl (by decide +kernel) rfl (pm_en_1 rfl (pm_en_1 rfl (pm_en_1 rfl (pm_en_1 rfl (pm_en_0 rfl))))) (by decide) (by decide +kernel) ?_
  refine pm_aload_n dL_start_0 rfl ?_
  refine pm_iconst (v := 0) dL_start_1 (by decide) ?_
  refine pm_aload_n dL_start_2 rfl ?_
  refine pm_iload_n dL_start_3 rfl ?_
  refine pm_iload_n dL_start_4 rfl ?_
  refine pm_vik (kc2 := 0) (ks2 := 0) hM pm_y_X6_start pm_v_X6_start pm_m_L_15 (c := 6) (r := (RX6, TX6, 16)) rfl rfl hk dL_start_5 rfl rfl hd (Nat.le_of_ble_eq_true rfl) (Nat.le_refl _) (Nat.le_refl _) (fun a S2 h2 => ?_)
  refine pm_i2l dL_start_8 ?_
  refine pm_lastore (n := 0) (ho a S2 h2).1 rfl (by rw [(ho a S2 h2).2]; decide) (by rw [(ho a S2 h2).2]; decide) dL_start_9 ?_
  refine pm_goto (tgt := 21) dL_start_10 (by decide) ?_
  refine pm_iconst (v := 0) dL_start_21 (by decide) ?_
  exact pm_lret dL_start_22 ⟨rfl, a, S2, h2, by rfl⟩
set_option maxHeartbeats 4000000 in
set_option maxRecDepth 100000 in
theorem f_start (G : pm_G) (l : Launch) (hl : l.stackTraces = false) (bs : Nat) (x out : Nat) (p0 p1 : Int32) (S : pm_S) (hk : pm_k S x = 7) (hM : pm_T G l bs yX6_start cX6_start 3 (some .int) 6 pm_IA [.ref x, .int p0, .int p1] S) : pm_ML G l bs yL_start cL_start 5 2 10 1 6 [.ref x, .int p0, .int p1, .ref out] S (fun r S3 => r = 1 ∧ S3 = S) := by
  refine pm_ML.mk (k := 2) (L := [.ref x, .int p0, .int p1, .ref out, pm_u]) hl (by decide +kernel) rfl (pm_en_1 rfl (pm_en_1 rfl (pm_en_1 rfl (pm_en_1 rfl (pm_en_0 rfl))))) (by decide) (by decide +kernel) ?_
  refine pm_aload_n dL_start_0 rfl ?_
  refine pm_iconst (v := 0) dL_start_1 (by decide) ?_
  refine pm_aload_n dL_start_2 rfl ?_
  refine pm_iload_n dL_start_3 rfl ?_
  refine pm_iload_n dL_start_4 rfl ?_
  refine pm_callT1 (k := 2) (st9 := []) (S9 := S) (Or.inr ⟨rfl, rfl⟩) (by decide) rfl (by decide) (by decide) pm_c_L_13 pm_caA hM pm_y_X6_start pm_v_X6_start pm_m_L_15 (c := 6) (r := (RX6, TX6, 16)) rfl rfl hk rfl (by decide) (by decide) (by decide) (Nat.le_of_ble_eq_true rfl) dL_start_5 rfl (fun q => ?_)
  refine pm_astore dL_start_13 (by decide) ?_
  dsimp only [List.set]
  refine pm_iconst (v := 1) dL_start_15 (by decide) ?_
  exact pm_lret dL_start_16 ⟨rfl, rfl⟩
set_option maxHeartbeats 4000000 in
set_option maxRecDepth 100000 in
theorem f2_start (G : pm_G) (l : Launch) (hl : l.stackTraces = false) (bs : Nat) (x out : Nat) (p0 p1 : Int32) (S : pm_S) (hk : pm_k S x = 7) (hM : pm_T G l bs yX6_start cX6_start 3 (some .int) 6 pm_IS [.ref x, .int p0, .int p1] S) : pm_ML G l bs yL_start cL_start 5 2 10 1 6 [.ref x, .int p0, .int p1, .ref out] S (fun r S3 => r = 2 ∧ S3 = S) := by
  refine pm_ML.mk (k := 2) (L := [.ref x, .int p0, .int p1, .ref out, pm_u]) hl (by decide +kernel) rfl (pm_en_1 rfl (pm_en_1 rfl (pm_en_1 rfl (pm_en_1 rfl (pm_en_0 rfl))))) (by decide) (by decide +kernel) ?_
  refine pm_aload_n dL_start_0 rfl ?_
  refine pm_iconst (v := 0) dL_start_1 (by decide) ?_
  refine pm_aload_n dL_start_2 rfl ?_
  refine pm_iload_n dL_start_3 rfl ?_
  refine pm_iload_n dL_start_4 rfl ?_
  refine pm_callT2 (k := 2) (st9 := []) (S9 := S) (Or.inr ⟨rfl, rfl⟩) (by decide) rfl (by decide) (by decide) (by decide) pm_c_L_13 pm_c_L_19 pm_caS hM pm_y_X6_start pm_v_X6_start pm_m_L_15 (c := 6) (r := (RX6, TX6, 16)) rfl rfl hk rfl (by decide) (by decide) (by decide) (Nat.le_of_ble_eq_true rfl) dL_start_5 rfl (fun q => ?_)
  refine pm_astore dL_start_17 (by decide) ?_
  dsimp only [List.set]
  refine pm_iconst (v := 2) dL_start_19 (by decide) ?_
  exact pm_lret dL_start_20 ⟨rfl, rfl⟩
set_option maxHeartbeats 4000000 in
set_option maxRecDepth 100000 in
theorem k_send (G : pm_G) (l : Launch) (hl : l.stackTraces = false) (bs : Nat) (x out : Nat) (p0 p1 : Int32) (S : pm_S) (hk : pm_k S x = 7) (post : Int32 → pm_S → Prop) (d' kc ks : Nat) (hd : d' + 1 ≤ 10) (ho : ∀ a S2, post a S2 → pm_k S2 out = 11 ∧ pm_n S2 out = 1) (hM : pm_M G l bs yX6_send cX6_send 4 (some .boolean) d' kc ks [.ref x, .int p0, .int p1] S (pm_qi post)) : pm_ML G l bs yL_send cL_send 5 3 10 kc ks [.ref x, .int p0, .int p1, .ref out] S (fun r S3 => r = 0 ∧ ∃ a S2, post a S2 ∧ S3 = pm_sy S2 out 0 (if a = 0 then 0 else 1)) := by
  refine pm_ML.mk (k := 3) (L := [.ref x, .int p0, .int p1, .ref out, pm_u]) hl (by decide +kernel) rfl (pm_en_1 rfl (pm_en_1 rfl (pm_en_1 rfl (pm_en_1 rfl (pm_en_0 rfl))))) (by decide) (by decide +kernel) ?_
  refine pm_aload_n dL_send_0 rfl ?_
  refine pm_iconst (v := 0) dL_send_1 (by decide) ?_
  refine pm_aload_n dL_send_2 rfl ?_
  refine pm_iload_n dL_send_3 rfl ?_
  refine pm_iload_n dL_send_4 rfl ?_
  refine pm_vik (kc2 := 0) (ks2 := 0) hM pm_y_X6_send pm_v_X6_send pm_m_L_21 (c := 6) (r := (RX6, TX6, 16)) rfl rfl hk dL_send_5 rfl rfl hd (Nat.le_of_ble_eq_true rfl) (Nat.le_refl _) (Nat.le_refl _) (fun a S2 h2 => ?_)
  refine pm_if_eq (tgt := 15) dL_send_8 (by decide) (fun h8 => ?_) (fun h8 => ?_)
  · skip
    refine pm_lconst (v := 0) dL_send_15 (by decide) ?_
    refine pm_lastore (n := 0) (ho a S2 h2).1 rfl (by rw [(ho a S2 h2).2]; decide) (by rw [(ho a S2 h2).2]; decide) dL_send_16 ?_
    refine pm_goto (tgt := 24) dL_send_17 (by decide) ?_
    refine pm_iconst (v := 0) dL_send_24 (by decide) ?_
    exact pm_lret dL_send_25 ⟨rfl, a, S2, h2, by first | rw [if_pos h8] | rw [if_neg h8]⟩
  · skip
    refine pm_lconst (v := 1) dL_send_11 (by decide) ?_
    refine pm_goto (tgt := 16) dL_send_12 (by decide) ?_
    refine pm_lastore (n := 0) (ho a S2 h2).1 rfl (by rw [(ho a S2 h2).2]; decide) (by rw [(ho a S2 h2).2]; decide) dL_send_16 ?_
    refine pm_goto (tgt := 24) dL_send_17 (by decide) ?_
    refine pm_iconst (v := 0) dL_send_24 (by decide) ?_
    exact pm_lret dL_send_25 ⟨rfl, a, S2, h2, by first | rw [if_pos h8] | rw [if_neg h8]⟩
set_option maxHeartbeats 4000000 in
set_option maxRecDepth 100000 in
theorem f_send (G : pm_G) (l : Launch) (hl : l.stackTraces = false) (bs : Nat) (x out : Nat) (p0 p1 : Int32) (S : pm_S) (hk : pm_k S x = 7) (hM : pm_T G l bs yX6_send cX6_send 4 (some .boolean) 6 pm_IA [.ref x, .int p0, .int p1] S) : pm_ML G l bs yL_send cL_send 5 3 10 1 6 [.ref x, .int p0, .int p1, .ref out] S (fun r S3 => r = 1 ∧ S3 = S) := by
  refine pm_ML.mk (k := 3) (L := [.ref x, .int p0, .int p1, .ref out, pm_u]) hl (by decide +kernel) rfl (pm_en_1 rfl (pm_en_1 rfl (pm_en_1 rfl (pm_en_1 rfl (pm_en_0 rfl))))) (by decide) (by decide +kernel) ?_
  refine pm_aload_n dL_send_0 rfl ?_
  refine pm_iconst (v := 0) dL_send_1 (by decide) ?_
  refine pm_aload_n dL_send_2 rfl ?_
  refine pm_iload_n dL_send_3 rfl ?_
  refine pm_iload_n dL_send_4 rfl ?_
  refine pm_callT1 (k := 3) (st9 := []) (S9 := S) (Or.inr ⟨rfl, rfl⟩) (by decide) rfl (by decide) (by decide) pm_c_L_13 pm_caA hM pm_y_X6_send pm_v_X6_send pm_m_L_21 (c := 6) (r := (RX6, TX6, 16)) rfl rfl hk rfl (by decide) (by decide) (by decide) (Nat.le_of_ble_eq_true rfl) dL_send_5 rfl (fun q => ?_)
  refine pm_astore dL_send_20 (by decide) ?_
  dsimp only [List.set]
  refine pm_iconst (v := 1) dL_send_22 (by decide) ?_
  exact pm_lret dL_send_23 ⟨rfl, rfl⟩
set_option maxHeartbeats 4000000 in
set_option maxRecDepth 100000 in
theorem k_run (G : pm_G) (l : Launch) (hl : l.stackTraces = false) (bs : Nat) (x out : Nat) (p0 : Int32) (S : pm_S) (hk : pm_k S x = 7) (post : Int32 → pm_S → Prop) (d' kc ks : Nat) (hd : d' + 1 ≤ 10) (ho : ∀ a S2, post a S2 → pm_k S2 out = 11 ∧ pm_n S2 out = 1) (hM : pm_M G l bs yX6_run cX6_run 4 (some .int) d' kc ks [.ref x, .int p0] S (pm_qi post)) : pm_ML G l bs yL_run cL_run 4 4 10 kc ks [.ref x, .int p0, .ref out] S (fun r S3 => r = 0 ∧ ∃ a S2, post a S2 ∧ S3 = pm_sy S2 out 0 a.toInt64) := by
  refine pm_ML.mk (k := 4) (L := [.ref x, .int p0, .ref out, pm_u]) hl (by decide +kernel) rfl (pm_en_1 rfl (pm_en_1 rfl (pm_en_1 rfl (pm_en_0 rfl)))) (by decide) (by decide +kernel) ?_
  refine pm_aload_n dL_run_0 rfl ?_
  refine pm_iconst (v := 0) dL_run_1 (by decide) ?_
  refine pm_aload_n dL_run_2 rfl ?_
  refine pm_iload_n dL_run_3 rfl ?_
  refine pm_vik (kc2 := 0) (ks2 := 0) hM pm_y_X6_run pm_v_X6_run pm_m_L_25 (c := 6) (r := (RX6, TX6, 16)) rfl rfl hk dL_run_4 rfl rfl hd (Nat.le_of_ble_eq_true rfl) (Nat.le_refl _) (Nat.le_refl _) (fun a S2 h2 => ?_)
  refine pm_i2l dL_run_7 ?_
  refine pm_lastore (n := 0) (ho a S2 h2).1 rfl (by rw [(ho a S2 h2).2]; decide) (by rw [(ho a S2 h2).2]; decide) dL_run_8 ?_
  refine pm_goto (tgt := 15) dL_run_9 (by decide) ?_
  refine pm_iconst (v := 0) dL_run_15 (by decide) ?_
  exact pm_lret dL_run_16 ⟨rfl, a, S2, h2, by rfl⟩
set_option maxHeartbeats 4000000 in
set_option maxRecDepth 100000 in
theorem f_run (G : pm_G) (l : Launch) (hl : l.stackTraces = false) (bs : Nat) (x out : Nat) (p0 : Int32) (S : pm_S) (hk : pm_k S x = 7) (hM : pm_T G l bs yX6_run cX6_run 4 (some .int) 6 pm_IA [.ref x, .int p0] S) : pm_ML G l bs yL_run cL_run 4 4 10 1 6 [.ref x, .int p0, .ref out] S (fun r S3 => r = 1 ∧ S3 = S) := by
  refine pm_ML.mk (k := 4) (L := [.ref x, .int p0, .ref out, pm_u]) hl (by decide +kernel) rfl (pm_en_1 rfl (pm_en_1 rfl (pm_en_1 rfl (pm_en_0 rfl)))) (by decide) (by decide +kernel) ?_
  refine pm_aload_n dL_run_0 rfl ?_
  refine pm_iconst (v := 0) dL_run_1 (by decide) ?_
  refine pm_aload_n dL_run_2 rfl ?_
  refine pm_iload_n dL_run_3 rfl ?_
  refine pm_callT1 (k := 4) (st9 := []) (S9 := S) (Or.inr ⟨rfl, rfl⟩) (by decide) rfl (by decide) (by decide) pm_c_L_13 pm_caA hM pm_y_X6_run pm_v_X6_run pm_m_L_25 (c := 6) (r := (RX6, TX6, 16)) rfl rfl hk rfl (by decide) (by decide) (by decide) (Nat.le_of_ble_eq_true rfl) dL_run_4 rfl (fun q => ?_)
  refine pm_astn dL_run_12 (i := 3) rfl (by decide) ?_
  dsimp only [List.set]
  refine pm_iconst (v := 1) dL_run_13 (by decide) ?_
  exact pm_lret dL_run_14 ⟨rfl, rfl⟩
set_option maxHeartbeats 4000000 in
set_option maxRecDepth 100000 in
theorem k_pass (G : pm_G) (l : Launch) (hl : l.stackTraces = false) (bs : Nat) (x out : Nat) (p0 : Int32) (S : pm_S) (hk : pm_k S x = 7) (post : Int32 → pm_S → Prop) (d' kc ks : Nat) (hd : d' + 1 ≤ 10) (ho : ∀ a S2, post a S2 → pm_k S2 out = 11 ∧ pm_n S2 out = 1) (hM : pm_M G l bs yX6_pass cX6_pass 4 (some .int) d' kc ks [.ref x, .int p0] S (pm_qi post)) : pm_ML G l bs yL_pass cL_pass 4 5 10 kc ks [.ref x, .int p0, .ref out] S (fun r S3 => r = 0 ∧ ∃ a S2, post a S2 ∧ S3 = pm_sy S2 out 0 a.toInt64) := by
  refine pm_ML.mk (k := 5) (L := [.ref x, .int p0, .ref out, pm_u]) hl (by decide +kernel) rfl (pm_en_1 rfl (pm_en_1 rfl (pm_en_1 rfl (pm_en_0 rfl)))) (by decide) (by decide +kernel) ?_
  refine pm_aload_n dL_pass_0 rfl ?_
  refine pm_iconst (v := 0) dL_pass_1 (by decide) ?_
  refine pm_aload_n dL_pass_2 rfl ?_
  refine pm_iload_n dL_pass_3 rfl ?_
  refine pm_vik (kc2 := 0) (ks2 := 0) hM pm_y_X6_pass pm_v_X6_pass pm_m_L_29 (c := 6) (r := (RX6, TX6, 16)) rfl rfl hk dL_pass_4 rfl rfl hd (Nat.le_of_ble_eq_true rfl) (Nat.le_refl _) (Nat.le_refl _) (fun a S2 h2 => ?_)
  refine pm_i2l dL_pass_7 ?_
  refine pm_lastore (n := 0) (ho a S2 h2).1 rfl (by rw [(ho a S2 h2).2]; decide) (by rw [(ho a S2 h2).2]; decide) dL_pass_8 ?_
  refine pm_goto (tgt := 15) dL_pass_9 (by decide) ?_
  refine pm_iconst (v := 0) dL_pass_15 (by decide) ?_
  exact pm_lret dL_pass_16 ⟨rfl, a, S2, h2, by rfl⟩
set_option maxHeartbeats 4000000 in
set_option maxRecDepth 100000 in
theorem f_pass (G : pm_G) (l : Launch) (hl : l.stackTraces = false) (bs : Nat) (x out : Nat) (p0 : Int32) (S : pm_S) (hk : pm_k S x = 7) (hM : pm_T G l bs yX6_pass cX6_pass 4 (some .int) 6 pm_IA [.ref x, .int p0] S) : pm_ML G l bs yL_pass cL_pass 4 5 10 1 6 [.ref x, .int p0, .ref out] S (fun r S3 => r = 1 ∧ S3 = S) := by
  refine pm_ML.mk (k := 5) (L := [.ref x, .int p0, .ref out, pm_u]) hl (by decide +kernel) rfl (pm_en_1 rfl (pm_en_1 rfl (pm_en_1 rfl (pm_en_0 rfl)))) (by decide) (by decide +kernel) ?_
  refine pm_aload_n dL_pass_0 rfl ?_
  refine pm_iconst (v := 0) dL_pass_1 (by decide) ?_
  refine pm_aload_n dL_pass_2 rfl ?_
  refine pm_iload_n dL_pass_3 rfl ?_
  refine pm_callT1 (k := 5) (st9 := []) (S9 := S) (Or.inr ⟨rfl, rfl⟩) (by decide) rfl (by decide) (by decide) pm_c_L_13 pm_caA hM pm_y_X6_pass pm_v_X6_pass pm_m_L_29 (c := 6) (r := (RX6, TX6, 16)) rfl rfl hk rfl (by decide) (by decide) (by decide) (Nat.le_of_ble_eq_true rfl) dL_pass_4 rfl (fun q => ?_)
  refine pm_astn dL_pass_12 (i := 3) rfl (by decide) ?_
  dsimp only [List.set]
  refine pm_iconst (v := 1) dL_pass_13 (by decide) ?_
  exact pm_lret dL_pass_14 ⟨rfl, rfl⟩
set_option maxHeartbeats 4000000 in
set_option maxRecDepth 100000 in
theorem k_process (G : pm_G) (l : Launch) (hl : l.stackTraces = false) (bs : Nat) (x out : Nat) (p0 p1 : Int32) (S : pm_S) (hk : pm_k S x = 7) (post : Int32 → pm_S → Prop) (d' kc ks : Nat) (hd : d' + 1 ≤ 10) (ho : ∀ a S2, post a S2 → pm_k S2 out = 11 ∧ pm_n S2 out = 1) (hM : pm_M G l bs yX6_process cX6_process 4 (some .int) d' kc ks [.ref x, .int p0, .int p1] S (pm_qi post)) : pm_ML G l bs yL_process cL_process 5 6 10 kc ks [.ref x, .int p0, .int p1, .ref out] S (fun r S3 => r = 0 ∧ ∃ a S2, post a S2 ∧ S3 = pm_sy S2 out 0 a.toInt64) := by
  refine pm_ML.mk (k := 6) (L := [.ref x, .int p0, .int p1, .ref out, pm_u]) hl (by decide +kernel) rfl (pm_en_1 rfl (pm_en_1 rfl (pm_en_1 rfl (pm_en_1 rfl (pm_en_0 rfl))))) (by decide) (by decide +kernel) ?_
  refine pm_aload_n dL_process_0 rfl ?_
  refine pm_iconst (v := 0) dL_process_1 (by decide) ?_
  refine pm_aload_n dL_process_2 rfl ?_
  refine pm_iload_n dL_process_3 rfl ?_
  refine pm_iload_n dL_process_4 rfl ?_
  refine pm_vik (kc2 := 0) (ks2 := 0) hM pm_y_X6_process pm_v_X6_process pm_m_L_32 (c := 6) (r := (RX6, TX6, 16)) rfl rfl hk dL_process_5 rfl rfl hd (Nat.le_of_ble_eq_true rfl) (Nat.le_refl _) (Nat.le_refl _) (fun a S2 h2 => ?_)
  refine pm_i2l dL_process_8 ?_
  refine pm_lastore (n := 0) (ho a S2 h2).1 rfl (by rw [(ho a S2 h2).2]; decide) (by rw [(ho a S2 h2).2]; decide) dL_process_9 ?_
  refine pm_goto (tgt := 17) dL_process_10 (by decide) ?_
  refine pm_iconst (v := 0) dL_process_17 (by decide) ?_
  exact pm_lret dL_process_18 ⟨rfl, a, S2, h2, by rfl⟩
set_option maxHeartbeats 4000000 in
set_option maxRecDepth 100000 in
theorem f_process (G : pm_G) (l : Launch) (hl : l.stackTraces = false) (bs : Nat) (x out : Nat) (p0 p1 : Int32) (S : pm_S) (hk : pm_k S x = 7) (hM : pm_T G l bs yX6_process cX6_process 4 (some .int) 6 pm_IA [.ref x, .int p0, .int p1] S) : pm_ML G l bs yL_process cL_process 5 6 10 1 6 [.ref x, .int p0, .int p1, .ref out] S (fun r S3 => r = 1 ∧ S3 = S) := by
  refine pm_ML.mk (k := 6) (L := [.ref x, .int p0, .int p1, .ref out, pm_u]) hl (by decide +kernel) rfl (pm_en_1 rfl (pm_en_1 rfl (pm_en_1 rfl (pm_en_1 rfl (pm_en_0 rfl))))) (by decide) (by decide +kernel) ?_
  refine pm_aload_n dL_process_0 rfl ?_
  refine pm_iconst (v := 0) dL_process_1 (by decide) ?_
  refine pm_aload_n dL_process_2 rfl ?_
  refine pm_iload_n dL_process_3 rfl ?_
  refine pm_iload_n dL_process_4 rfl ?_
  refine pm_callT1 (k := 6) (st9 := []) (S9 := S) (Or.inr ⟨rfl, rfl⟩) (by decide) rfl (by decide) (by decide) pm_c_L_13 pm_caA hM pm_y_X6_process pm_v_X6_process pm_m_L_32 (c := 6) (r := (RX6, TX6, 16)) rfl rfl hk rfl (by decide) (by decide) (by decide) (Nat.le_of_ble_eq_true rfl) dL_process_5 rfl (fun q => ?_)
  refine pm_astore dL_process_13 (by decide) ?_
  dsimp only [List.set]
  refine pm_iconst (v := 1) dL_process_15 (by decide) ?_
  exact pm_lret dL_process_16 ⟨rfl, rfl⟩
set_option maxHeartbeats 4000000 in
set_option maxRecDepth 100000 in
theorem k_register (G : pm_G) (l : Launch) (hl : l.stackTraces = false) (bs : Nat) (x out : Nat) (p0 p1 p2 : Int32) (S : pm_S) (hk : pm_k S x = 7) (post : Int32 → pm_S → Prop) (d' kc ks : Nat) (hd : d' + 1 ≤ 10) (ho : ∀ a S2, post a S2 → pm_k S2 out = 11 ∧ pm_n S2 out = 1) (hM : pm_M G l bs yX6_register cX6_register 5 (some .int) d' kc ks [.ref x, .int p0, .int p1, .int p2] S (pm_qi post)) : pm_ML G l bs yL_register cL_register 6 7 10 kc ks [.ref x, .int p0, .int p1, .int p2, .ref out] S (fun r S3 => r = 0 ∧ ∃ a S2, post a S2 ∧ S3 = pm_sy S2 out 0 a.toInt64) := by
  refine pm_ML.mk (k := 7) (L := [.ref x, .int p0, .int p1, .int p2, .ref out, pm_u]) hl (by decide +kernel) rfl (pm_en_1 rfl (pm_en_1 rfl (pm_en_1 rfl (pm_en_1 rfl (pm_en_1 rfl (pm_en_0 rfl)))))) (by decide) (by decide +kernel) ?_
  refine pm_aload dL_register_0 rfl ?_
  refine pm_iconst (v := 0) dL_register_2 (by decide) ?_
  refine pm_aload_n dL_register_3 rfl ?_
  refine pm_iload_n dL_register_4 rfl ?_
  refine pm_iload_n dL_register_5 rfl ?_
  refine pm_iload_n dL_register_6 rfl ?_
  refine pm_vik (kc2 := 0) (ks2 := 0) hM pm_y_X6_register pm_v_X6_register pm_m_L_35 (c := 6) (r := (RX6, TX6, 16)) rfl rfl hk dL_register_7 rfl rfl hd (Nat.le_of_ble_eq_true rfl) (Nat.le_refl _) (Nat.le_refl _) (fun a S2 h2 => ?_)
  refine pm_i2l dL_register_10 ?_
  refine pm_lastore (n := 0) (ho a S2 h2).1 rfl (by rw [(ho a S2 h2).2]; decide) (by rw [(ho a S2 h2).2]; decide) dL_register_11 ?_
  refine pm_goto (tgt := 19) dL_register_12 (by decide) ?_
  refine pm_iconst (v := 0) dL_register_19 (by decide) ?_
  exact pm_lret dL_register_20 ⟨rfl, a, S2, h2, by rfl⟩
set_option maxHeartbeats 4000000 in
set_option maxRecDepth 100000 in
theorem f_register (G : pm_G) (l : Launch) (hl : l.stackTraces = false) (bs : Nat) (x out : Nat) (p0 p1 p2 : Int32) (S : pm_S) (hk : pm_k S x = 7) (hM : pm_T G l bs yX6_register cX6_register 5 (some .int) 6 pm_IA [.ref x, .int p0, .int p1, .int p2] S) : pm_ML G l bs yL_register cL_register 6 7 10 1 6 [.ref x, .int p0, .int p1, .int p2, .ref out] S (fun r S3 => r = 1 ∧ S3 = S) := by
  refine pm_ML.mk (k := 7) (L := [.ref x, .int p0, .int p1, .int p2, .ref out, pm_u]) hl (by decide +kernel) rfl (pm_en_1 rfl (pm_en_1 rfl (pm_en_1 rfl (pm_en_1 rfl (pm_en_1 rfl (pm_en_0 rfl)))))) (by decide) (by decide +kernel) ?_
  refine pm_aload dL_register_0 rfl ?_
  refine pm_iconst (v := 0) dL_register_2 (by decide) ?_
  refine pm_aload_n dL_register_3 rfl ?_
  refine pm_iload_n dL_register_4 rfl ?_
  refine pm_iload_n dL_register_5 rfl ?_
  refine pm_iload_n dL_register_6 rfl ?_
  refine pm_callT1 (k := 7) (st9 := []) (S9 := S) (Or.inr ⟨rfl, rfl⟩) (by decide) rfl (by decide) (by decide) pm_c_L_13 pm_caA hM pm_y_X6_register pm_v_X6_register pm_m_L_35 (c := 6) (r := (RX6, TX6, 16)) rfl rfl hk rfl (by decide) (by decide) (by decide) (Nat.le_of_ble_eq_true rfl) dL_register_7 rfl (fun q => ?_)
  refine pm_astore dL_register_15 (by decide) ?_
  dsimp only [List.set]
  refine pm_iconst (v := 1) dL_register_17 (by decide) ?_
  exact pm_lret dL_register_18 ⟨rfl, rfl⟩
set_option maxHeartbeats 4000000 in
set_option maxRecDepth 100000 in
theorem k_message (G : pm_G) (l : Launch) (hl : l.stackTraces = false) (bs : Nat) (x out : Nat) (p0 p1 p2 : Int32) (S : pm_S) (hk : pm_k S x = 7) (post : Int32 → pm_S → Prop) (d' kc ks : Nat) (hd : d' + 1 ≤ 10) (ho : ∀ a S2, post a S2 → pm_k S2 out = 11 ∧ pm_n S2 out = 1) (hM : pm_M G l bs yX6_message cX6_message 6 (some .int) d' kc ks [.ref x, .int p0, .int p1, .int p2] S (pm_qi post)) : pm_ML G l bs yL_message cL_message 6 8 10 kc ks [.ref x, .int p0, .int p1, .int p2, .ref out] S (fun r S3 => r = 0 ∧ ∃ a S2, post a S2 ∧ S3 = pm_sy S2 out 0 a.toInt64) := by
  refine pm_ML.mk (k := 8) (L := [.ref x, .int p0, .int p1, .int p2, .ref out, pm_u]) hl (by decide +kernel) rfl (pm_en_1 rfl (pm_en_1 rfl (pm_en_1 rfl (pm_en_1 rfl (pm_en_1 rfl (pm_en_0 rfl)))))) (by decide) (by decide +kernel) ?_
  refine pm_aload dL_message_0 rfl ?_
  refine pm_iconst (v := 0) dL_message_2 (by decide) ?_
  refine pm_aload_n dL_message_3 rfl ?_
  refine pm_iload_n dL_message_4 rfl ?_
  refine pm_iload_n dL_message_5 rfl ?_
  refine pm_iload_n dL_message_6 rfl ?_
  refine pm_vik (kc2 := 0) (ks2 := 0) hM pm_y_X6_message pm_v_X6_message pm_m_L_39 (c := 6) (r := (RX6, TX6, 16)) rfl rfl hk dL_message_7 rfl rfl hd (Nat.le_of_ble_eq_true rfl) (Nat.le_refl _) (Nat.le_refl _) (fun a S2 h2 => ?_)
  refine pm_i2l dL_message_10 ?_
  refine pm_lastore (n := 0) (ho a S2 h2).1 rfl (by rw [(ho a S2 h2).2]; decide) (by rw [(ho a S2 h2).2]; decide) dL_message_11 ?_
  refine pm_goto (tgt := 19) dL_message_12 (by decide) ?_
  refine pm_iconst (v := 0) dL_message_19 (by decide) ?_
  exact pm_lret dL_message_20 ⟨rfl, a, S2, h2, by rfl⟩
set_option maxHeartbeats 4000000 in
set_option maxRecDepth 100000 in
theorem f_message (G : pm_G) (l : Launch) (hl : l.stackTraces = false) (bs : Nat) (x out : Nat) (p0 p1 p2 : Int32) (S : pm_S) (hk : pm_k S x = 7) (hM : pm_T G l bs yX6_message cX6_message 6 (some .int) 6 pm_IA [.ref x, .int p0, .int p1, .int p2] S) : pm_ML G l bs yL_message cL_message 6 8 10 1 6 [.ref x, .int p0, .int p1, .int p2, .ref out] S (fun r S3 => r = 1 ∧ S3 = S) := by
  refine pm_ML.mk (k := 8) (L := [.ref x, .int p0, .int p1, .int p2, .ref out, pm_u]) hl (by decide +kernel) rfl (pm_en_1 rfl (pm_en_1 rfl (pm_en_1 rfl (pm_en_1 rfl (pm_en_1 rfl (pm_en_0 rfl)))))) (by decide) (by decide +kernel) ?_
  refine pm_aload dL_message_0 rfl ?_
  refine pm_iconst (v := 0) dL_message_2 (by decide) ?_
  refine pm_aload_n dL_message_3 rfl ?_
  refine pm_iload_n dL_message_4 rfl ?_
  refine pm_iload_n dL_message_5 rfl ?_
  refine pm_iload_n dL_message_6 rfl ?_
  refine pm_callT1 (k := 8) (st9 := []) (S9 := S) (Or.inr ⟨rfl, rfl⟩) (by decide) rfl (by decide) (by decide) pm_c_L_13 pm_caA hM pm_y_X6_message pm_v_X6_message pm_m_L_39 (c := 6) (r := (RX6, TX6, 16)) rfl rfl hk rfl (by decide) (by decide) (by decide) (Nat.le_of_ble_eq_true rfl) dL_message_7 rfl (fun q => ?_)
  refine pm_astore dL_message_15 (by decide) ?_
  dsimp only [List.set]
  refine pm_iconst (v := 1) dL_message_17 (by decide) ?_
  exact pm_lret dL_message_18 ⟨rfl, rfl⟩
set_option maxHeartbeats 4000000 in
set_option maxRecDepth 100000 in
theorem k_total (G : pm_G) (l : Launch) (hl : l.stackTraces = false) (bs : Nat) (x out : Nat) (p0 : Int32) (S : pm_S) (hk : pm_k S x = 7) (post : Int32 → pm_S → Prop) (d' kc ks : Nat) (hd : d' + 1 ≤ 10) (ho : ∀ a S2, post a S2 → pm_k S2 out = 11 ∧ pm_n S2 out = 1) (hM : pm_M G l bs yX6_total cX6_total 2 (some .int) d' kc ks [.ref x, .int p0] S (pm_qi post)) : pm_ML G l bs yL_total cL_total 4 9 10 kc ks [.ref x, .int p0, .ref out] S (fun r S3 => r = 0 ∧ ∃ a S2, post a S2 ∧ S3 = pm_sy S2 out 0 a.toInt64) := by
  refine pm_ML.mk (k := 9) (L := [.ref x, .int p0, .ref out, pm_u]) hl (by decide +kernel) rfl (pm_en_1 rfl (pm_en_1 rfl (pm_en_1 rfl (pm_en_0 rfl)))) (by decide) (by decide +kernel) ?_
  refine pm_aload_n dL_total_0 rfl ?_
  refine pm_iconst (v := 0) dL_total_1 (by decide) ?_
  refine pm_aload_n dL_total_2 rfl ?_
  refine pm_iload_n dL_total_3 rfl ?_
  refine pm_vik (kc2 := 0) (ks2 := 0) hM pm_y_X6_total pm_v_X6_total pm_m_L_42 (c := 6) (r := (RX6, TX6, 16)) rfl rfl hk dL_total_4 rfl rfl hd (Nat.le_of_ble_eq_true rfl) (Nat.le_refl _) (Nat.le_refl _) (fun a S2 h2 => ?_)
  refine pm_i2l dL_total_7 ?_
  refine pm_lastore (n := 0) (ho a S2 h2).1 rfl (by rw [(ho a S2 h2).2]; decide) (by rw [(ho a S2 h2).2]; decide) dL_total_8 ?_
  refine pm_goto (tgt := 15) dL_total_9 (by decide) ?_
  refine pm_iconst (v := 0) dL_total_15 (by decide) ?_
  exact pm_lret dL_total_16 ⟨rfl, a, S2, h2, by rfl⟩
set_option maxHeartbeats 4000000 in
set_option maxRecDepth 100000 in
theorem f_total (G : pm_G) (l : Launch) (hl : l.stackTraces = false) (bs : Nat) (x out : Nat) (p0 : Int32) (S : pm_S) (hk : pm_k S x = 7) (hM : pm_T G l bs yX6_total cX6_total 2 (some .int) 6 pm_IA [.ref x, .int p0] S) : pm_ML G l bs yL_total cL_total 4 9 10 1 6 [.ref x, .int p0, .ref out] S (fun r S3 => r = 1 ∧ S3 = S) := by
  refine pm_ML.mk (k := 9) (L := [.ref x, .int p0, .ref out, pm_u]) hl (by decide +kernel) rfl (pm_en_1 rfl (pm_en_1 rfl (pm_en_1 rfl (pm_en_0 rfl)))) (by decide) (by decide +kernel) ?_
  refine pm_aload_n dL_total_0 rfl ?_
  refine pm_iconst (v := 0) dL_total_1 (by decide) ?_
  refine pm_aload_n dL_total_2 rfl ?_
  refine pm_iload_n dL_total_3 rfl ?_
  refine pm_callT1 (k := 9) (st9 := []) (S9 := S) (Or.inr ⟨rfl, rfl⟩) (by decide) rfl (by decide) (by decide) pm_c_L_13 pm_caA hM pm_y_X6_total pm_v_X6_total pm_m_L_42 (c := 6) (r := (RX6, TX6, 16)) rfl rfl hk rfl (by decide) (by decide) (by decide) (Nat.le_of_ble_eq_true rfl) dL_total_4 rfl (fun q => ?_)
  refine pm_astn dL_total_12 (i := 3) rfl (by decide) ?_
  dsimp only [List.set]
  refine pm_iconst (v := 1) dL_total_13 (by decide) ?_
  exact pm_lret dL_total_14 ⟨rfl, rfl⟩
