/-! what the constructors make -/
def nMI (S0 S : pm_S) (v : Nat) (P : Nat → Bool) (a : Nat → Nat) : Prop :=
  pm_k S v = 8 ∧ (∀ g, pm_i S g v = 0) ∧ (∀ s, P s = true → pm_p S (350 + s) v = some (a s) ∧ pm_k S (a s) = (if mB s = true then 10 else 9) ∧ pm_n S (a s) = mlen s ∧ (∀ i, pm_x S (a s) i = 0) ∧ pm_k S0 (a s) = 0) ∧ (∀ s t, P s = true → P t = true → a s = a t → s = t) ∧ ∀ b, pm_k S0 b ≠ 0 → b ≠ v → pm_e8 S0 S b
theorem nMI.st {S0 S : pm_S} {v s r K N g : Nat} {P : Nat → Bool} {a : Nat → Nat} (h : nMI S0 S v P a) (hv : pm_k S0 v = 8) (hr : pm_k S r = 0) (eK : K = if mB s = true then 10 else 9) (eN : N = mlen s) (eg : g = 350 + s) (hP : P s = false) : nMI S0 (pm_sp (pm_nw S r K N) g v (some r)) v (fun t => t == s || P t) (fun t => if t = s then r else a t) := by
  obtain ⟨h1, h2, h3, h4, h5⟩ := h
  have hrv : v ≠ r := fun e => by rw [← e, h1] at hr; cases hr
  have K0 : K ≠ 0 := by rw [eK]; split <;> decide
  have hr0 : pm_k S0 r = 0 := by
    by_cases q : pm_k S0 r = 0
    · exact q
    · have := (h5 r q (fun e => hrv e.symm)).1
      rw [hr] at this
      exact this.symm
  have hPs : ∀ t, (t == s || P t) = true → t = s ∨ (t ≠ s ∧ P t = true) := fun t ht => by
    by_cases e : t = s
    · exact Or.inl e
    · refine Or.inr ⟨e, ?_⟩
      simpa [e] using ht
  have ne : ∀ t, P t = true → a t ≠ r := fun t ht e => by
    have := (h3 t ht).2.1
    rw [e, hr] at this
    split at this <;> cases this
  have nv : ∀ t, P t = true → a t ≠ v := fun t ht e => by
    have := (h3 t ht).2.1
    rw [e, h1] at this
    split at this <;> cases this
  refine ⟨by rw [pm_k_sp, pm_k_nw, if_neg hrv]; exact h1, fun f => by rw [pm_i_sp, pm_i_nw, if_neg hrv]; exact h2 f, fun t ht => ?_, fun t u ht hu e => ?_, fun b hb hbv => ?_⟩
  · rcases hPs t ht with e | ⟨e, ht2⟩
    · subst e
      dsimp only
      rw [if_pos rfl, pm_p_sp, if_pos ⟨eg.symm, rfl⟩, pm_k_sp, pm_k_nw, if_pos rfl, pm_n_sp, pm_n_nw, if_pos rfl]
      exact ⟨rfl, eK, eN, fun i => by rw [pm_x_sp, pm_x_nw, if_pos rfl], hr0⟩
    · obtain ⟨c1, c2, c3, c4, c5⟩ := h3 t ht2
      dsimp only
      rw [if_neg e, pm_p_sp, if_neg (fun z => e (by omega)), pm_p_nw, if_neg hrv, pm_k_sp, pm_k_nw, if_neg (ne t ht2), pm_n_sp, pm_n_nw, if_neg (ne t ht2)]
      exact ⟨c1, c2, c3, fun i => by rw [pm_x_sp, pm_x_nw, if_neg (ne t ht2)]; exact c4 i, c5⟩
  · dsimp only at e
    rcases hPs t ht with e1 | ⟨e1, ht2⟩ <;> rcases hPs u hu with e2 | ⟨e2, hu2⟩
    · rw [e1, e2]
    · rw [if_pos e1, if_neg e2] at e; exact absurd e.symm (ne u hu2)
    · rw [if_neg e1, if_pos e2] at e; exact absurd e (ne t ht2)
    · rw [if_neg e1, if_neg e2] at e; exact h4 t u ht2 hu2 e
  · have hbr : b ≠ r := fun e => hb (by rw [e]; exact hr0)
    exact e8_tr (e8_tr (h5 b hb hbv) (e8_nw hbr)) (e8_sp hbv)
theorem mlenP (s : Nat) (h : 0 < mlen s) : (fun t : Nat => (t == 34 || (t == 32 || (t == 29 || (t == 28 || (t == 27 || (t == 24 || (t == 23 || (t == 22 || (t == 21 || (t == 20 || (t == 19 || (t == 18 || (t == 17 || (t == 16 || (t == 15 || (t == 14 || (t == 13 || (t == 12 || (t == 11 || (t == 10 || (t == 9 || (t == 8 || (t == 7 || (t == 6 || (t == 5 || (t == 4 || (t == 3 || (t == 2 || (t == 1 || (t == 0 || false))))))))))))))))))))))))))))))) s = true := by
  unfold mlen at h
  split at h <;> first | rfl | exact absurd h (by decide)
set_option maxHeartbeats 4000000 in
set_option maxRecDepth 100000 in
theorem c_X7_init (G : pm_G) (l : Launch) (bs : Nat) (v : Nat) (S : pm_S) (hk : pm_k S v = 8) (hi : ∀ g, pm_i S g v = 0) : pm_M G l bs yX7_init cX7_init 1 none 1 30 291600 [.ref v] S (pm_qv (fun S2 => ∃ a : Nat → Nat, pm_k S2 v = 8 ∧ (∀ g, pm_i S2 g v = 0) ∧ (∀ s, 0 < mlen s → pm_p S2 (350 + s) v = some (a s) ∧ pm_k S2 (a s) = (if mB s = true then 10 else 9) ∧ pm_n S2 (a s) = mlen s ∧ (∀ i, pm_x S2 (a s) i = 0) ∧ pm_k S (a s) = 0) ∧ (∀ s t, 0 < mlen s → 0 < mlen t → a s = a t → s = t) ∧ ∀ b, pm_k S b ≠ 0 → b ≠ v → pm_e8 S S2 b)) := by
  have n0 : nMI S S v (fun _ => false) (fun _ => 0) := by unfold nMI; exact ⟨hk, hi, fun s h => absurd (show false = true from h) (by decide), fun s t h => absurd (show false = true from h) (by decide), fun b _ _ => e8_rf⟩
  refine pm_Mv (L := [.ref v]) true (by decide +kernel) (fun _ => rfl) rfl (pm_en_1 rfl (pm_en_0 rfl)) ?_
  generalize hQ9 : pm_xv (fun S2 => ∃ a : Nat → Nat, pm_k S2 v = 8 ∧ (∀ g, pm_i S2 g v = 0) ∧ (∀ s, 0 < mlen s → pm_p S2 (350 + s) v = some (a s) ∧ pm_k S2 (a s) = (if mB s = true then 10 else 9) ∧ pm_n S2 (a s) = mlen s ∧ (∀ i, pm_x S2 (a s) i = 0) ∧ pm_k S (a s) = 0) ∧ (∀ s t, 0 < mlen s → 0 < mlen t → a s = a t → s = t) ∧ ∀ b, pm_k S b ≠ 0 → b ≠ v → pm_e8 S S2 b) = Q9
  refine pm_aload_n dX7_init_0 rfl ?_
  refine pm_objInit pm_m_X7_1 pm_oi pm_oc (by decide) (Nat.le_of_ble_eq_true rfl) dX7_init_1 ?_
  refine pm_aload_n dX7_init_4 rfl ?_
  refine pm_ldc pm_cn_X7_7 dX7_init_5 ?_
  refine pm_newarrI (N := 279775) rfl (by decide) pm_ac_int (kc' := 29) (ks' := 11825) (by decide) (by decide) dX7_init_7 (fun r7 hf7 hb7 => ?_)
  refine pm_p_Model_told (by rw [pm_k_nw, if_neg (fun e => by rw [← e, n0.1] at hf7; cases hf7)]; exact n0.1) pm_f_X7_8 rfl rfl pm_fw_X7_8 dX7_init_9 ?_
  have n1 := n0.st (s := 0) (K := 9) (N := 279775) (g := 350) hk hf7 rfl rfl rfl (by decide)
  generalize pm_sp (pm_nw S r7 9 279775) 350 v (some r7) = S1 at n1 ⊢
  refine pm_aload_n dX7_init_12 rfl ?_
  refine pm_sipush (v := 2945) dX7_init_13 (by decide) ?_
  refine pm_newarrI (N := 2945) rfl (by decide) pm_ac_int (kc' := 28) (ks' := 8880) (by decide) (by decide) dX7_init_16 (fun r16 hf16 hb16 => ?_)
  refine pm_p_Model_sizes (by rw [pm_k_nw, if_neg (fun e => by rw [← e, n1.1] at hf16; cases hf16)]; exact n1.1) pm_f_X7_14 rfl rfl pm_fw_X7_14 dX7_init_18 ?_
  have n2 := n1.st (s := 1) (K := 9) (N := 2945) (g := 351) hk hf16 rfl rfl rfl (by decide)
  generalize pm_sp (pm_nw S1 r16 9 2945) 351 v (some r16) = S2 at n2 ⊢
  refine pm_aload_n dX7_init_21 rfl ?_
  refine pm_sipush (v := 300) dX7_init_22 (by decide) ?_
  refine pm_newarrI (N := 300) rfl (by decide) pm_ac_int (kc' := 27) (ks' := 8580) (by decide) (by decide) dX7_init_25 (fun r25 hf25 hb25 => ?_)
  refine pm_p_Model_operations (by rw [pm_k_nw, if_neg (fun e => by rw [← e, n2.1] at hf25; cases hf25)]; exact n2.1) pm_f_X7_17 rfl rfl pm_fw_X7_17 dX7_init_27 ?_
  have n3 := n2.st (s := 2) (K := 9) (N := 300) (g := 352) hk hf25 rfl rfl rfl (by decide)
  generalize pm_sp (pm_nw S2 r25 9 300) 352 v (some r25) = S3 at n3 ⊢
  refine pm_aload_n dX7_init_30 rfl ?_
  refine pm_sipush (v := 300) dX7_init_31 (by decide) ?_
  refine pm_newarrI (N := 300) rfl (by decide) pm_ac_int (kc' := 26) (ks' := 8280) (by decide) (by decide) dX7_init_34 (fun r34 hf34 hb34 => ?_)
  refine pm_p_Model_as (by rw [pm_k_nw, if_neg (fun e => by rw [← e, n3.1] at hf34; cases hf34)]; exact n3.1) pm_f_X7_20 rfl rfl pm_fw_X7_20 dX7_init_36 ?_
  have n4 := n3.st (s := 3) (K := 9) (N := 300) (g := 353) hk hf34 rfl rfl rfl (by decide)
  generalize pm_sp (pm_nw S3 r34 9 300) 353 v (some r34) = S4 at n4 ⊢
  refine pm_aload_n dX7_init_39 rfl ?_
  refine pm_sipush (v := 300) dX7_init_40 (by decide) ?_
  refine pm_newarrI (N := 300) rfl (by decide) pm_ac_int (kc' := 25) (ks' := 7980) (by decide) (by decide) dX7_init_43 (fun r43 hf43 hb43 => ?_)
  refine pm_p_Model_bs (by rw [pm_k_nw, if_neg (fun e => by rw [← e, n4.1] at hf43; cases hf43)]; exact n4.1) pm_f_X7_23 rfl rfl pm_fw_X7_23 dX7_init_45 ?_
  have n5 := n4.st (s := 4) (K := 9) (N := 300) (g := 354) hk hf43 rfl rfl rfl (by decide)
  generalize pm_sp (pm_nw S4 r43 9 300) 354 v (some r43) = S5 at n5 ⊢
  refine pm_aload_n dX7_init_48 rfl ?_
  refine pm_sipush (v := 300) dX7_init_49 (by decide) ?_
  refine pm_newarrI (N := 300) rfl (by decide) pm_ac_int (kc' := 24) (ks' := 7680) (by decide) (by decide) dX7_init_52 (fun r52 hf52 hb52 => ?_)
  refine pm_p_Model_cs (by rw [pm_k_nw, if_neg (fun e => by rw [← e, n5.1] at hf52; cases hf52)]; exact n5.1) pm_f_X7_26 rfl rfl pm_fw_X7_26 dX7_init_54 ?_
  have n6 := n5.st (s := 5) (K := 9) (N := 300) (g := 355) hk hf52 rfl rfl rfl (by decide)
  generalize pm_sp (pm_nw S5 r52 9 300) 355 v (some r52) = S6 at n6 ⊢
  refine pm_aload_n dX7_init_57 rfl ?_
  refine pm_bipush (v := 60) dX7_init_58 (by decide) ?_
  refine pm_newarrI (N := 60) rfl (by decide) pm_ac_int (kc' := 23) (ks' := 7620) (by decide) (by decide) dX7_init_60 (fun r60 hf60 hb60 => ?_)
  refine pm_p_Model_state (by rw [pm_k_nw, if_neg (fun e => by rw [← e, n6.1] at hf60; cases hf60)]; exact n6.1) pm_f_X7_29 rfl rfl pm_fw_X7_29 dX7_init_62 ?_
  have n7 := n6.st (s := 6) (K := 9) (N := 60) (g := 356) hk hf60 rfl rfl rfl (by decide)
  generalize pm_sp (pm_nw S6 r60 9 60) 356 v (some r60) = S7 at n7 ⊢
  refine pm_aload_n dX7_init_65 rfl ?_
  refine pm_bipush (v := 60) dX7_init_66 (by decide) ?_
  refine pm_newarrI (N := 60) rfl (by decide) pm_ac_int (kc' := 22) (ks' := 7560) (by decide) (by decide) dX7_init_68 (fun r68 hf68 hb68 => ?_)
  refine pm_p_Model_place (by rw [pm_k_nw, if_neg (fun e => by rw [← e, n7.1] at hf68; cases hf68)]; exact n7.1) pm_f_X7_32 rfl rfl pm_fw_X7_32 dX7_init_70 ?_
  have n8 := n7.st (s := 7) (K := 9) (N := 60) (g := 357) hk hf68 rfl rfl rfl (by decide)
  generalize pm_sp (pm_nw S7 r68 9 60) 357 v (some r68) = S8 at n8 ⊢
  refine pm_aload_n dX7_init_73 rfl ?_
  refine pm_bipush (v := 60) dX7_init_74 (by decide) ?_
  refine pm_newarrI (N := 60) rfl (by decide) pm_ac_int (kc' := 21) (ks' := 7500) (by decide) (by decide) dX7_init_76 (fun r76 hf76 hb76 => ?_)
  refine pm_p_Model_priority (by rw [pm_k_nw, if_neg (fun e => by rw [← e, n8.1] at hf76; cases hf76)]; exact n8.1) pm_f_X7_35 rfl rfl pm_fw_X7_35 dX7_init_78 ?_
  have n9 := n8.st (s := 8) (K := 9) (N := 60) (g := 358) hk hf76 rfl rfl rfl (by decide)
  generalize pm_sp (pm_nw S8 r76 9 60) 358 v (some r76) = S9 at n9 ⊢
  refine pm_aload_n dX7_init_81 rfl ?_
  refine pm_bipush (v := 60) dX7_init_82 (by decide) ?_
  refine pm_newarrI (N := 60) rfl (by decide) pm_ac_int (kc' := 20) (ks' := 7440) (by decide) (by decide) dX7_init_84 (fun r84 hf84 hb84 => ?_)
  refine pm_p_Model_name (by rw [pm_k_nw, if_neg (fun e => by rw [← e, n9.1] at hf84; cases hf84)]; exact n9.1) pm_f_X7_38 rfl rfl pm_fw_X7_38 dX7_init_86 ?_
  have n10 := n9.st (s := 9) (K := 9) (N := 60) (g := 359) hk hf84 rfl rfl rfl (by decide)
  generalize pm_sp (pm_nw S9 r84 9 60) 359 v (some r84) = S10 at n10 ⊢
  refine pm_aload_n dX7_init_89 rfl ?_
  refine pm_bipush (v := 60) dX7_init_90 (by decide) ?_
  refine pm_newarrZ (N := 60) rfl (by decide) pm_ac_boolean (kc' := 19) (ks' := 7380) (by decide) (by decide) dX7_init_92 (fun r92 hf92 hb92 => ?_)
  refine pm_p_Model_traps (by rw [pm_k_nw, if_neg (fun e => by rw [← e, n10.1] at hf92; cases hf92)]; exact n10.1) pm_f_X7_41 rfl rfl pm_fw_X7_41 dX7_init_94 ?_
  have n11 := n10.st (s := 10) (K := 10) (N := 60) (g := 360) hk hf92 rfl rfl rfl (by decide)
  generalize pm_sp (pm_nw S10 r92 10 60) 360 v (some r92) = S11 at n11 ⊢
  refine pm_aload_n dX7_init_97 rfl ?_
  refine pm_bipush (v := 60) dX7_init_98 (by decide) ?_
  refine pm_newarrI (N := 60) rfl (by decide) pm_ac_int (kc' := 18) (ks' := 7320) (by decide) (by decide) dX7_init_100 (fun r100 hf100 hb100 => ?_)
  refine pm_p_Model_mail (by rw [pm_k_nw, if_neg (fun e => by rw [← e, n11.1] at hf100; cases hf100)]; exact n11.1) pm_f_X7_45 rfl rfl pm_fw_X7_45 dX7_init_102 ?_
  have n12 := n11.st (s := 11) (K := 9) (N := 60) (g := 361) hk hf100 rfl rfl rfl (by decide)
  generalize pm_sp (pm_nw S11 r100 9 60) 361 v (some r100) = S12 at n12 ⊢
  refine pm_aload_n dX7_init_105 rfl ?_
  refine pm_bipush (v := 60) dX7_init_106 (by decide) ?_
  refine pm_newarrI (N := 60) rfl (by decide) pm_ac_int (kc' := 17) (ks' := 7260) (by decide) (by decide) dX7_init_108 (fun r108 hf108 hb108 => ?_)
  refine pm_p_Model_pointer (by rw [pm_k_nw, if_neg (fun e => by rw [← e, n12.1] at hf108; cases hf108)]; exact n12.1) pm_f_X7_48 rfl rfl pm_fw_X7_48 dX7_init_110 ?_
  have n13 := n12.st (s := 12) (K := 9) (N := 60) (g := 362) hk hf108 rfl rfl rfl (by decide)
  generalize pm_sp (pm_nw S12 r108 9 60) 362 v (some r108) = S13 at n13 ⊢
  refine pm_aload_n dX7_init_113 rfl ?_
  refine pm_sipush (v := 960) dX7_init_114 (by decide) ?_
  refine pm_newarrI (N := 960) rfl (by decide) pm_ac_int (kc' := 16) (ks' := 6300) (by decide) (by decide) dX7_init_117 (fun r117 hf117 hb117 => ?_)
  refine pm_p_Model_backs (by rw [pm_k_nw, if_neg (fun e => by rw [← e, n13.1] at hf117; cases hf117)]; exact n13.1) pm_f_X7_51 rfl rfl pm_fw_X7_51 dX7_init_119 ?_
  have n14 := n13.st (s := 13) (K := 9) (N := 960) (g := 363) hk hf117 rfl rfl rfl (by decide)
  generalize pm_sp (pm_nw S13 r117 9 960) 363 v (some r117) = S14 at n14 ⊢
  refine pm_aload_n dX7_init_122 rfl ?_
  refine pm_bipush (v := 60) dX7_init_123 (by decide) ?_
  refine pm_newarrI (N := 60) rfl (by decide) pm_ac_int (kc' := 15) (ks' := 6240) (by decide) (by decide) dX7_init_125 (fun r125 hf125 hb125 => ?_)
  refine pm_p_Model_backCount (by rw [pm_k_nw, if_neg (fun e => by rw [← e, n14.1] at hf125; cases hf125)]; exact n14.1) pm_f_X7_54 rfl rfl pm_fw_X7_54 dX7_init_127 ?_
  have n15 := n14.st (s := 14) (K := 9) (N := 60) (g := 364) hk hf125 rfl rfl rfl (by decide)
  generalize pm_sp (pm_nw S14 r125 9 60) 364 v (some r125) = S15 at n15 ⊢
  refine pm_aload_n dX7_init_130 rfl ?_
  refine pm_sipush (v := 480) dX7_init_131 (by decide) ?_
  refine pm_newarrI (N := 480) rfl (by decide) pm_ac_int (kc' := 14) (ks' := 5760) (by decide) (by decide) dX7_init_134 (fun r134 hf134 hb134 => ?_)
  refine pm_p_Model_catches (by rw [pm_k_nw, if_neg (fun e => by rw [← e, n15.1] at hf134; cases hf134)]; exact n15.1) pm_f_X7_57 rfl rfl pm_fw_X7_57 dX7_init_136 ?_
  have n16 := n15.st (s := 15) (K := 9) (N := 480) (g := 365) hk hf134 rfl rfl rfl (by decide)
  generalize pm_sp (pm_nw S15 r134 9 480) 365 v (some r134) = S16 at n16 ⊢
  refine pm_aload_n dX7_init_139 rfl ?_
  refine pm_sipush (v := 480) dX7_init_140 (by decide) ?_
  refine pm_newarrI (N := 480) rfl (by decide) pm_ac_int (kc' := 13) (ks' := 5280) (by decide) (by decide) dX7_init_143 (fun r143 hf143 hb143 => ?_)
  refine pm_p_Model_caught (by rw [pm_k_nw, if_neg (fun e => by rw [← e, n16.1] at hf143; cases hf143)]; exact n16.1) pm_f_X7_60 rfl rfl pm_fw_X7_60 dX7_init_145 ?_
  have n17 := n16.st (s := 16) (K := 9) (N := 480) (g := 366) hk hf143 rfl rfl rfl (by decide)
  generalize pm_sp (pm_nw S16 r143 9 480) 366 v (some r143) = S17 at n17 ⊢
  refine pm_aload_n dX7_init_148 rfl ?_
  refine pm_bipush (v := 60) dX7_init_149 (by decide) ?_
  refine pm_newarrI (N := 60) rfl (by decide) pm_ac_int (kc' := 12) (ks' := 5220) (by decide) (by decide) dX7_init_151 (fun r151 hf151 hb151 => ?_)
  refine pm_p_Model_catchCount (by rw [pm_k_nw, if_neg (fun e => by rw [← e, n17.1] at hf151; cases hf151)]; exact n17.1) pm_f_X7_63 rfl rfl pm_fw_X7_63 dX7_init_153 ?_
  have n18 := n17.st (s := 17) (K := 9) (N := 60) (g := 367) hk hf151 rfl rfl rfl (by decide)
  generalize pm_sp (pm_nw S17 r151 9 60) 367 v (some r151) = S18 at n18 ⊢
  refine pm_aload_n dX7_init_156 rfl ?_
  refine pm_bipush (v := 60) dX7_init_157 (by decide) ?_
  refine pm_newarrI (N := 60) rfl (by decide) pm_ac_int (kc' := 11) (ks' := 5160) (by decide) (by decide) dX7_init_159 (fun r159 hf159 hb159 => ?_)
  refine pm_p_Model_done (by rw [pm_k_nw, if_neg (fun e => by rw [← e, n18.1] at hf159; cases hf159)]; exact n18.1) pm_f_X7_66 rfl rfl pm_fw_X7_66 dX7_init_161 ?_
  have n19 := n18.st (s := 18) (K := 9) (N := 60) (g := 368) hk hf159 rfl rfl rfl (by decide)
  generalize pm_sp (pm_nw S18 r159 9 60) 368 v (some r159) = S19 at n19 ⊢
  refine pm_aload_n dX7_init_164 rfl ?_
  refine pm_bipush (v := 60) dX7_init_165 (by decide) ?_
  refine pm_newarrI (N := 60) rfl (by decide) pm_ac_int (kc' := 10) (ks' := 5100) (by decide) (by decide) dX7_init_167 (fun r167 hf167 hb167 => ?_)
  refine pm_p_Model_onTo (by rw [pm_k_nw, if_neg (fun e => by rw [← e, n19.1] at hf167; cases hf167)]; exact n19.1) pm_f_X7_69 rfl rfl pm_fw_X7_69 dX7_init_169 ?_
  have n20 := n19.st (s := 19) (K := 9) (N := 60) (g := 369) hk hf167 rfl rfl rfl (by decide)
  generalize pm_sp (pm_nw S19 r167 9 60) 369 v (some r167) = S20 at n20 ⊢
  refine pm_aload_n dX7_init_172 rfl ?_
  refine pm_bipush (v := 60) dX7_init_173 (by decide) ?_
  refine pm_newarrI (N := 60) rfl (by decide) pm_ac_int (kc' := 9) (ks' := 5040) (by decide) (by decide) dX7_init_175 (fun r175 hf175 hb175 => ?_)
  refine pm_p_Model_lateTo (by rw [pm_k_nw, if_neg (fun e => by rw [← e, n20.1] at hf175; cases hf175)]; exact n20.1) pm_f_X7_72 rfl rfl pm_fw_X7_72 dX7_init_177 ?_
  have n21 := n20.st (s := 20) (K := 9) (N := 60) (g := 370) hk hf175 rfl rfl rfl (by decide)
  generalize pm_sp (pm_nw S20 r175 9 60) 370 v (some r175) = S21 at n21 ⊢
  refine pm_aload_n dX7_init_180 rfl ?_
  refine pm_bipush (v := 60) dX7_init_181 (by decide) ?_
  refine pm_newarrI (N := 60) rfl (by decide) pm_ac_int (kc' := 8) (ks' := 4980) (by decide) (by decide) dX7_init_183 (fun r183 hf183 hb183 => ?_)
  refine pm_p_Model_due (by rw [pm_k_nw, if_neg (fun e => by rw [← e, n21.1] at hf183; cases hf183)]; exact n21.1) pm_f_X7_75 rfl rfl pm_fw_X7_75 dX7_init_185 ?_
  have n22 := n21.st (s := 21) (K := 9) (N := 60) (g := 371) hk hf183 rfl rfl rfl (by decide)
  generalize pm_sp (pm_nw S21 r183 9 60) 371 v (some r183) = S22 at n22 ⊢
  refine pm_aload_n dX7_init_188 rfl ?_
  refine pm_bipush (v := 60) dX7_init_189 (by decide) ?_
  refine pm_newarrZ (N := 60) rfl (by decide) pm_ac_boolean (kc' := 7) (ks' := 4920) (by decide) (by decide) dX7_init_191 (fun r191 hf191 hb191 => ?_)
  refine pm_p_Model_timed (by rw [pm_k_nw, if_neg (fun e => by rw [← e, n22.1] at hf191; cases hf191)]; exact n22.1) pm_f_X7_78 rfl rfl pm_fw_X7_78 dX7_init_193 ?_
  have n23 := n22.st (s := 22) (K := 10) (N := 60) (g := 372) hk hf191 rfl rfl rfl (by decide)
  generalize pm_sp (pm_nw S22 r191 10 60) 372 v (some r191) = S23 at n23 ⊢
  refine pm_aload_n dX7_init_196 rfl ?_
  refine pm_bipush (v := 60) dX7_init_197 (by decide) ?_
  refine pm_newarrI (N := 60) rfl (by decide) pm_ac_int (kc' := 6) (ks' := 4860) (by decide) (by decide) dX7_init_199 (fun r199 hf199 hb199 => ?_)
  refine pm_p_Model_since (by rw [pm_k_nw, if_neg (fun e => by rw [← e, n23.1] at hf199; cases hf199)]; exact n23.1) pm_f_X7_81 rfl rfl pm_fw_X7_81 dX7_init_201 ?_
  have n24 := n23.st (s := 23) (K := 9) (N := 60) (g := 373) hk hf199 rfl rfl rfl (by decide)
  generalize pm_sp (pm_nw S23 r199 9 60) 373 v (some r199) = S24 at n24 ⊢
  refine pm_aload_n dX7_init_204 rfl ?_
  refine pm_sipush (v := 3600) dX7_init_205 (by decide) ?_
  refine pm_newarrZ (N := 3600) rfl (by decide) pm_ac_boolean (kc' := 5) (ks' := 1260) (by decide) (by decide) dX7_init_208 (fun r208 hf208 hb208 => ?_)
  refine pm_p_Model_linked (by rw [pm_k_nw, if_neg (fun e => by rw [← e, n24.1] at hf208; cases hf208)]; exact n24.1) pm_f_X7_84 rfl rfl pm_fw_X7_84 dX7_init_210 ?_
  have n25 := n24.st (s := 24) (K := 10) (N := 3600) (g := 374) hk hf208 rfl rfl rfl (by decide)
  generalize pm_sp (pm_nw S24 r208 10 3600) 374 v (some r208) = S25 at n25 ⊢
  refine pm_aload_n dX7_init_213 rfl ?_
  refine pm_sipush (v := 200) dX7_init_214 (by decide) ?_
  refine pm_newarrI (N := 200) rfl (by decide) pm_ac_int (kc' := 4) (ks' := 1060) (by decide) (by decide) dX7_init_217 (fun r217 hf217 hb217 => ?_)
  refine pm_p_Model_watchers (by rw [pm_k_nw, if_neg (fun e => by rw [← e, n25.1] at hf217; cases hf217)]; exact n25.1) pm_f_X7_87 rfl rfl pm_fw_X7_87 dX7_init_219 ?_
  have n26 := n25.st (s := 27) (K := 9) (N := 200) (g := 377) hk hf217 rfl rfl rfl (by decide)
  generalize pm_sp (pm_nw S25 r217 9 200) 377 v (some r217) = S26 at n26 ⊢
  refine pm_aload_n dX7_init_222 rfl ?_
  refine pm_sipush (v := 200) dX7_init_223 (by decide) ?_
  refine pm_newarrI (N := 200) rfl (by decide) pm_ac_int (kc' := 3) (ks' := 860) (by decide) (by decide) dX7_init_226 (fun r226 hf226 hb226 => ?_)
  refine pm_p_Model_watched (by rw [pm_k_nw, if_neg (fun e => by rw [← e, n26.1] at hf226; cases hf226)]; exact n26.1) pm_f_X7_90 rfl rfl pm_fw_X7_90 dX7_init_228 ?_
  have n27 := n26.st (s := 28) (K := 9) (N := 200) (g := 378) hk hf226 rfl rfl rfl (by decide)
  generalize pm_sp (pm_nw S26 r226 9 200) 378 v (some r226) = S27 at n27 ⊢
  refine pm_aload_n dX7_init_231 rfl ?_
  refine pm_sipush (v := 200) dX7_init_232 (by decide) ?_
  refine pm_newarrI (N := 200) rfl (by decide) pm_ac_int (kc' := 2) (ks' := 660) (by decide) (by decide) dX7_init_235 (fun r235 hf235 hb235 => ?_)
  refine pm_p_Model_numbers (by rw [pm_k_nw, if_neg (fun e => by rw [← e, n27.1] at hf235; cases hf235)]; exact n27.1) pm_f_X7_93 rfl rfl pm_fw_X7_93 dX7_init_237 ?_
  have n28 := n27.st (s := 29) (K := 9) (N := 200) (g := 379) hk hf235 rfl rfl rfl (by decide)
  generalize pm_sp (pm_nw S27 r235 9 200) 379 v (some r235) = S28 at n28 ⊢
  refine pm_aload_n dX7_init_240 rfl ?_
  refine pm_bipush (v := 60) dX7_init_241 (by decide) ?_
  refine pm_newarrI (N := 60) rfl (by decide) pm_ac_int (kc' := 1) (ks' := 600) (by decide) (by decide) dX7_init_243 (fun r243 hf243 hb243 => ?_)
  refine pm_p_Model_fallen (by rw [pm_k_nw, if_neg (fun e => by rw [← e, n28.1] at hf243; cases hf243)]; exact n28.1) pm_f_X7_96 rfl rfl pm_fw_X7_96 dX7_init_245 ?_
  have n29 := n28.st (s := 32) (K := 9) (N := 60) (g := 382) hk hf243 rfl rfl rfl (by decide)
  generalize pm_sp (pm_nw S28 r243 9 60) 382 v (some r243) = S29 at n29 ⊢
  refine pm_aload_n dX7_init_248 rfl ?_
  refine pm_sipush (v := 600) dX7_init_249 (by decide) ?_
  refine pm_newarrI (N := 600) rfl (by decide) pm_ac_int (kc' := 0) (ks' := 0) (by decide) (by decide) dX7_init_252 (fun r252 hf252 hb252 => ?_)
  refine pm_p_Model_out (by rw [pm_k_nw, if_neg (fun e => by rw [← e, n29.1] at hf252; cases hf252)]; exact n29.1) pm_f_X7_99 rfl rfl pm_fw_X7_99 dX7_init_254 ?_
  have n30 := n29.st (s := 34) (K := 9) (N := 600) (g := 384) hk hf252 rfl rfl rfl (by decide)
  generalize pm_sp (pm_nw S29 r252 9 600) 384 v (some r252) = S30 at n30 ⊢
  subst hQ9
  refine pm_vret dX7_init_257 ?_
  refine ⟨_, n30.1, n30.2.1, fun s hs => n30.2.2.1 s ?_, fun s t hs ht => n30.2.2.2.1 s t ?_ ?_, n30.2.2.2.2⟩
  · exact mlenP s hs
  · exact mlenP s hs
  · exact mlenP t ht

