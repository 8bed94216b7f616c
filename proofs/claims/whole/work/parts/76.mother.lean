/-! the reference: others -/
set_option maxHeartbeats 4000000 in
set_option maxRecDepth 100000 in
theorem m_29 (G : pm_G) (l : Launch) (bs : Nat) (A : Nat → Nat) (E : pm_S) (M : pm_N) (b : Nat) (Z : az) (s : Nat) (p ja jb jc : Nat) (a bb c : Int32) (vo v9 v10 v11 : Value) (W : az) (S : pm_S) (hm : pm_MX M S A E) (hr : mR b Z M) (hI : zI s Z) (hp : p < az_a Z 0) (h0 : az_b Z 1 p = 0) (hja : ja < 8) (hjb : jb < 8) (hjc : jc < 8) (hW : (if zKind (az_t Z 0 p ja) ≠ 2 then zBad Z p else zLnk Z p (some (zPid (az_t Z 0 p ja)))) = W) : pm_W G l bs yX7_others.cls cX7_others 8 false 5 0 0 (pm_xv (fun S2 => ∃ M2, pm_MX M2 S2 A E ∧ mR b W M2)) 44 [.ref (A 50), .int (nI p), .int 29, .int a, .int bb, .int (nI (8 * p + ja)), .int (nI (8 * p + jb)), v9] [] S := by
  have hn := hI.1
  have hsm := hI.sm
  have h9b := hI.b9
  have h02 : az_b Z 1 p ≠ 2 := by omega
  have hsa := hr.G hp hja
  have hsb := hr.G hp hjb
  have hsc := hr.G hp hjc
  have hwa := hI.rg hp hja
  have hwb := hI.rg hp hjb
  have hwc := hI.rg hp hjc
  have hla := hwa.len
  have hlb := hwb.len
  have hlc := hwc.len
  generalize hQ9 : pm_xv (fun S2 => ∃ M2, pm_MX M2 S2 A E ∧ mR b W M2) = Q9
  refine pm_aload_n dX7_others_44 rfl ?_
  refine pm_iload_n dX7_others_45 rfl ?_
  refine pm_aload_n dX7_others_46 rfl ?_
  refine pm_iload dX7_others_47 rfl ?_
  refine pm_iconst (v := 2) dX7_others_49 (by decide) ?_
  refine pm_vi (c_X7_is G l bs A E M (8 * p + ja) 2 _ hm (by omega)) pm_y_X7_is pm_v_X7_is pm_m_X7_178 (c := 7) (r := (RX7, TX7, 41)) rfl rfl hm.1 dX7_others_50 rfl rfl (by decide) (Nat.le_of_ble_eq_true rfl) (fun x50 S50 h50 => ?_)
  obtain ⟨rfl, rfl⟩ := h50
  refine pm_if_ne (tgt := 60) dX7_others_53 (by decide) (fun h53 => ?_) (fun h53 => ?_)
  · skip
    have k2 : zKind (az_t Z 0 p ja) = 2 := (slK hsa hwa).2.2.1.mp (Classical.byContradiction (fun z => h53 (if_neg z)))
    refine pm_iconst (v := 0) dX7_others_60 (by decide) ?_
    refine pm_vi (c_X7_bad G l bs A E M b Z s p _ _ hm hr hI hp h02 (by first | exact Or.inl rfl | exact Or.inr rfl)) pm_y_X7_bad pm_v_X7_bad pm_m_X7_202 (c := 7) (r := (RX7, TX7, 41)) rfl rfl hm.1 dX7_others_61 rfl rfl (by decide) (Nat.le_of_ble_eq_true rfl) (fun x61 S61 h61 => ?_)
    obtain ⟨rfl, h61b⟩ := h61
    refine pm_if_eq (tgt := 70) dX7_others_64 (by decide) (fun h64 => ?_) (fun h64 => ?_)
    · first
      | exact absurd h64 (by decide)
      | (skip
         rcases h61b with ⟨-, rfl⟩ | ⟨g0, -⟩
         case inr => exact absurd rfl g0
         refine pm_aload_n dX7_others_70 rfl ?_
         refine pm_iload dX7_others_71 rfl ?_
         refine pm_vi (c_X7_valueOf G l bs A E M (8 * p + ja) _ hm (by omega)) pm_y_X7_valueOf pm_v_X7_valueOf pm_m_X7_181 (c := 7) (r := (RX7, TX7, 41)) rfl rfl hm.1 dX7_others_73 rfl rfl (by decide) (Nat.le_of_ble_eq_true rfl) (fun x73 S73 h73 => ?_)
         obtain ⟨rfl, rfl⟩ := h73
         rw [slV hsa hwa, (hwa.pid_of k2).2.2.2.2 (by omega)]
         have hqn := (hwa.pid_of k2).1
         refine pm_iconst (v := 1) dX7_others_76 (by decide) ?_
         refine pm_isub dX7_others_77 ?_
         rw [nI_pred]
         refine pm_istore dX7_others_78 (by decide) ?_
         dsimp only [List.set]
         refine pm_iload dX7_others_80 rfl ?_
         refine pm_iload_n dX7_others_82 rfl ?_
         refine pm_icmp_ne (tgt := 89) dX7_others_83 (by decide) (fun h83 => ?_) (fun h83 => ?_)
         · skip
           have gq : ¬ (zPid (az_t Z 0 p ja)) = p := fun z => h83 (by rw [z])
           refine pm_iload_n dX7_others_89 rfl ?_
           refine pm_bipush (v := 30) dX7_others_90 (by decide) ?_
           refine pm_icmp_ne (tgt := 106) dX7_others_92 (by decide) (fun h92 => ?_) (fun h92 => ?_)
           · skip
             skip
             refine pm_aload_n dX7_others_106 rfl ?_
             refine pm_g_Model_state hm.1 pm_f_X7_29 (hm.2.1 6 (by decide)).1 dX7_others_107 ?_
             refine pm_iload dX7_others_110 rfl ?_
             refine mm_iaload (n := _) hm (by decide) rfl (by show _ < 60; omega) dX7_others_112 ?_
             refine pm_iconst (v := 2) dX7_others_113 (by decide) ?_
             rw [hr.B (i := 1) hqn rfl]
             refine pm_icmp_eq (tgt := 128) dX7_others_114 (by decide) (fun h114 => ?_) (fun h114 => ?_)
             · skip
               have gd : az_b Z 1 (zPid (az_t Z 0 p ja)) = 2 := (pm_e2 (hsm _ hqn 1 (by decide))).mp h114
               refine pm_aload_n dX7_others_128 rfl ?_
               refine pm_sipush (v := 2944) dX7_others_129 (by decide) ?_
               refine pm_iconst (v := 1) dX7_others_132 (by decide) ?_
               refine pm_iconst (v := 3) dX7_others_133 (by decide) ?_
               refine pm_vv (c_X7_set G l bs A E M 2944 1 3 _ hm (by decide)) pm_y_X7_set pm_v_X7_set pm_m_X7_124 (c := 7) (r := (RX7, TX7, 41)) rfl rfl hm.1 dX7_others_134 rfl rfl (by decide) (Nat.le_of_ble_eq_true rfl) (fun S134 h134 => ?_)
               obtain ⟨M134, hm134, mt134, sl134⟩ := h134
               have hr134 := hr.T hn h9b mt134 (by decide)
               refine pm_aload_n dX7_others_137 rfl ?_
               refine pm_iload_n dX7_others_138 rfl ?_
               refine pm_iload dX7_others_139 rfl ?_
               refine pm_sipush (v := 2944) dX7_others_141 (by decide) ?_
               refine pm_iconst (v := 0) dX7_others_144 (by decide) ?_
               refine pm_vv (c_X7_exit G l bs A E M134 b Z s p (zPid (az_t Z 0 p ja)) 2944 [1, 3] 0 false _ hm134 hr134 hI hp hqn (by decide) (by decide) sl134 (tW.atom (by decide) (by decide)) rfl) pm_y_X7_exit pm_v_X7_exit pm_m_X7_164 (c := 7) (r := (RX7, TX7, 41)) rfl rfl hm134.1 dX7_others_145 rfl rfl (by decide) (Nat.le_of_ble_eq_true rfl) (fun S145 h145 => ?_)
               obtain ⟨M145, hm145, hr145⟩ := h145
               refine pm_goto (tgt := 550) dX7_others_148 (by decide) ?_
               subst hQ9
               refine pm_vret dX7_others_550 ?_
               first
               | (rw [if_pos k2] at hW; subst hW; exact ⟨M61, hm61, hr61⟩)
               | (rw [if_neg (fun z => z k2)] at hW; subst hW; exact ⟨M, hm, by show mR b (if _ then _ else if _ then _ else _) M; rw [if_neg (by rw [gq]; exact h02), if_pos gq]; exact hr⟩)
               | (rw [if_neg (fun z => z k2)] at hW; subst hW; exact ⟨_, h100, hr.link (v := false) (by omega) (by omega) rfl⟩)
               | (rw [if_neg (fun z => z k2)] at hW; subst hW; exact ⟨_, h122, by show mR b (if _ then _ else if _ then _ else _) _; rw [if_neg gd, if_neg gq]; exact hr.link (v := true) (by omega) (by omega) rfl⟩)
               | (rw [if_neg (fun z => z k2)] at hW; subst hW; exact ⟨M145, hm145, by show mR b (if _ then _ else if _ then _ else _) _; rw [if_pos gd]; exact hr145⟩)
             · skip
               have gd : ¬ az_b Z 1 (zPid (az_t Z 0 p ja)) = 2 := fun z => h114 ((pm_e2 (hsm _ hqn 1 (by decide))).mpr z)
               refine pm_aload_n dX7_others_117 rfl ?_
               refine pm_iload_n dX7_others_118 rfl ?_
               refine pm_iload dX7_others_119 rfl ?_
               refine pm_iconst (v := 1) dX7_others_121 (by decide) ?_
               refine pm_vv (c_X7_link G l bs A E M p (zPid (az_t Z 0 p ja)) 1 _ hm (by omega) (by omega) (Or.inr rfl)) pm_y_X7_link pm_v_X7_link pm_m_X7_160 (c := 7) (r := (RX7, TX7, 41)) rfl rfl hm.1 dX7_others_122 rfl rfl (by decide) (Nat.le_of_ble_eq_true rfl) (fun S122 h122 => ?_)
               refine pm_goto (tgt := 550) dX7_others_125 (by decide) ?_
               subst hQ9
               refine pm_vret dX7_others_550 ?_
               first
               | (rw [if_pos k2] at hW; subst hW; exact ⟨M61, hm61, hr61⟩)
               | (rw [if_neg (fun z => z k2)] at hW; subst hW; exact ⟨M, hm, by show mR b (if _ then _ else if _ then _ else _) M; rw [if_neg (by rw [gq]; exact h02), if_pos gq]; exact hr⟩)
               | (rw [if_neg (fun z => z k2)] at hW; subst hW; exact ⟨_, h100, hr.link (v := false) (by omega) (by omega) rfl⟩)
               | (rw [if_neg (fun z => z k2)] at hW; subst hW; exact ⟨_, h122, by show mR b (if _ then _ else if _ then _ else _) _; rw [if_neg gd, if_neg gq]; exact hr.link (v := true) (by omega) (by omega) rfl⟩)
               | (rw [if_neg (fun z => z k2)] at hW; subst hW; exact ⟨M145, hm145, by show mR b (if _ then _ else if _ then _ else _) _; rw [if_pos gd]; exact hr145⟩)
           · exact absurd h92 (by decide)
         · skip
           have gq : (zPid (az_t Z 0 p ja)) = p := (nI_eq (by omega) (by omega)).mp h83
           refine pm_goto (tgt := 550) dX7_others_86 (by decide) ?_
           subst hQ9
           refine pm_vret dX7_others_550 ?_
           first
           | (rw [if_pos k2] at hW; subst hW; exact ⟨M61, hm61, hr61⟩)
           | (rw [if_neg (fun z => z k2)] at hW; subst hW; exact ⟨M, hm, by show mR b (if _ then _ else if _ then _ else _) M; rw [if_neg (by rw [gq]; exact h02), if_pos gq]; exact hr⟩)
           | (rw [if_neg (fun z => z k2)] at hW; subst hW; exact ⟨_, h100, hr.link (v := false) (by omega) (by omega) rfl⟩)
           | (rw [if_neg (fun z => z k2)] at hW; subst hW; exact ⟨_, h122, by show mR b (if _ then _ else if _ then _ else _) _; rw [if_neg gd, if_neg gq]; exact hr.link (v := true) (by omega) (by omega) rfl⟩)
           | (rw [if_neg (fun z => z k2)] at hW; subst hW; exact ⟨M145, hm145, by show mR b (if _ then _ else if _ then _ else _) _; rw [if_pos gd]; exact hr145⟩))
    · first
      | exact absurd rfl h64
      | (skip
         rcases h61b with ⟨g0, -⟩ | ⟨-, M61, hm61, hr61⟩
         case inl => exact absurd g0 (by decide)
         refine pm_goto (tgt := 550) dX7_others_67 (by decide) ?_
         subst hQ9
         refine pm_vret dX7_others_550 ?_
         first
         | (rw [if_pos k2] at hW; subst hW; exact ⟨M61, hm61, hr61⟩)
         | (rw [if_neg (fun z => z k2)] at hW; subst hW; exact ⟨M, hm, by show mR b (if _ then _ else if _ then _ else _) M; rw [if_neg (by rw [gq]; exact h02), if_pos gq]; exact hr⟩)
         | (rw [if_neg (fun z => z k2)] at hW; subst hW; exact ⟨_, h100, hr.link (v := false) (by omega) (by omega) rfl⟩)
         | (rw [if_neg (fun z => z k2)] at hW; subst hW; exact ⟨_, h122, by show mR b (if _ then _ else if _ then _ else _) _; rw [if_neg gd, if_neg gq]; exact hr.link (v := true) (by omega) (by omega) rfl⟩)
         | (rw [if_neg (fun z => z k2)] at hW; subst hW; exact ⟨M145, hm145, by show mR b (if _ then _ else if _ then _ else _) _; rw [if_pos gd]; exact hr145⟩))
  · skip
    have k2 : ¬ zKind (az_t Z 0 p ja) = 2 := fun z => by rw [if_pos ((slK hsa hwa).2.2.1.mpr z)] at h53; cases h53
    refine pm_iconst (v := 1) dX7_others_56 (by decide) ?_
    refine pm_goto (tgt := 61) dX7_others_57 (by decide) ?_
    refine pm_vi (c_X7_bad G l bs A E M b Z s p _ _ hm hr hI hp h02 (by first | exact Or.inl rfl | exact Or.inr rfl)) pm_y_X7_bad pm_v_X7_bad pm_m_X7_202 (c := 7) (r := (RX7, TX7, 41)) rfl rfl hm.1 dX7_others_61 rfl rfl (by decide) (Nat.le_of_ble_eq_true rfl) (fun x61 S61 h61 => ?_)
    obtain ⟨rfl, h61b⟩ := h61
    refine pm_if_eq (tgt := 70) dX7_others_64 (by decide) (fun h64 => ?_) (fun h64 => ?_)
    · first
      | exact absurd h64 (by decide)
      | (skip
         rcases h61b with ⟨-, rfl⟩ | ⟨g0, -⟩
         case inr => exact absurd rfl g0
         refine pm_aload_n dX7_others_70 rfl ?_
         refine pm_iload dX7_others_71 rfl ?_
         refine pm_vi (c_X7_valueOf G l bs A E M (8 * p + ja) _ hm (by omega)) pm_y_X7_valueOf pm_v_X7_valueOf pm_m_X7_181 (c := 7) (r := (RX7, TX7, 41)) rfl rfl hm.1 dX7_others_73 rfl rfl (by decide) (Nat.le_of_ble_eq_true rfl) (fun x73 S73 h73 => ?_)
         obtain ⟨rfl, rfl⟩ := h73
         rw [slV hsa hwa, (hwa.pid_of k2).2.2.2.2 (by omega)]
         have hqn := (hwa.pid_of k2).1
         refine pm_iconst (v := 1) dX7_others_76 (by decide) ?_
         refine pm_isub dX7_others_77 ?_
         rw [nI_pred]
         refine pm_istore dX7_others_78 (by decide) ?_
         dsimp only [List.set]
         refine pm_iload dX7_others_80 rfl ?_
         refine pm_iload_n dX7_others_82 rfl ?_
         refine pm_icmp_ne (tgt := 89) dX7_others_83 (by decide) (fun h83 => ?_) (fun h83 => ?_)
         · skip
           have gq : ¬ (zPid (az_t Z 0 p ja)) = p := fun z => h83 (by rw [z])
           refine pm_iload_n dX7_others_89 rfl ?_
           refine pm_bipush (v := 30) dX7_others_90 (by decide) ?_
           refine pm_icmp_ne (tgt := 106) dX7_others_92 (by decide) (fun h92 => ?_) (fun h92 => ?_)
           · skip
             skip
             refine pm_aload_n dX7_others_106 rfl ?_
             refine pm_g_Model_state hm.1 pm_f_X7_29 (hm.2.1 6 (by decide)).1 dX7_others_107 ?_
             refine pm_iload dX7_others_110 rfl ?_
             refine mm_iaload (n := _) hm (by decide) rfl (by show _ < 60; omega) dX7_others_112 ?_
             refine pm_iconst (v := 2) dX7_others_113 (by decide) ?_
             rw [hr.B (i := 1) hqn rfl]
             refine pm_icmp_eq (tgt := 128) dX7_others_114 (by decide) (fun h114 => ?_) (fun h114 => ?_)
             · skip
               have gd : az_b Z 1 (zPid (az_t Z 0 p ja)) = 2 := (pm_e2 (hsm _ hqn 1 (by decide))).mp h114
               refine pm_aload_n dX7_others_128 rfl ?_
               refine pm_sipush (v := 2944) dX7_others_129 (by decide) ?_
               refine pm_iconst (v := 1) dX7_others_132 (by decide) ?_
               refine pm_iconst (v := 3) dX7_others_133 (by decide) ?_
               refine pm_vv (c_X7_set G l bs A E M 2944 1 3 _ hm (by decide)) pm_y_X7_set pm_v_X7_set pm_m_X7_124 (c := 7) (r := (RX7, TX7, 41)) rfl rfl hm.1 dX7_others_134 rfl rfl (by decide) (Nat.le_of_ble_eq_true rfl) (fun S134 h134 => ?_)
               obtain ⟨M134, hm134, mt134, sl134⟩ := h134
               have hr134 := hr.T hn h9b mt134 (by decide)
               refine pm_aload_n dX7_others_137 rfl ?_
               refine pm_iload_n dX7_others_138 rfl ?_
               refine pm_iload dX7_others_139 rfl ?_
               refine pm_sipush (v := 2944) dX7_others_141 (by decide) ?_
               refine pm_iconst (v := 0) dX7_others_144 (by decide) ?_
               refine pm_vv (c_X7_exit G l bs A E M134 b Z s p (zPid (az_t Z 0 p ja)) 2944 [1, 3] 0 false _ hm134 hr134 hI hp hqn (by decide) (by decide) sl134 (tW.atom (by decide) (by decide)) rfl) pm_y_X7_exit pm_v_X7_exit pm_m_X7_164 (c := 7) (r := (RX7, TX7, 41)) rfl rfl hm134.1 dX7_others_145 rfl rfl (by decide) (Nat.le_of_ble_eq_true rfl) (fun S145 h145 => ?_)
               obtain ⟨M145, hm145, hr145⟩ := h145
               refine pm_goto (tgt := 550) dX7_others_148 (by decide) ?_
               subst hQ9
               refine pm_vret dX7_others_550 ?_
               first
               | (rw [if_pos k2] at hW; subst hW; exact ⟨M61, hm61, hr61⟩)
               | (rw [if_neg (fun z => z k2)] at hW; subst hW; exact ⟨M, hm, by show mR b (if _ then _ else if _ then _ else _) M; rw [if_neg (by rw [gq]; exact h02), if_pos gq]; exact hr⟩)
               | (rw [if_neg (fun z => z k2)] at hW; subst hW; exact ⟨_, h100, hr.link (v := false) (by omega) (by omega) rfl⟩)
               | (rw [if_neg (fun z => z k2)] at hW; subst hW; exact ⟨_, h122, by show mR b (if _ then _ else if _ then _ else _) _; rw [if_neg gd, if_neg gq]; exact hr.link (v := true) (by omega) (by omega) rfl⟩)
               | (rw [if_neg (fun z => z k2)] at hW; subst hW; exact ⟨M145, hm145, by show mR b (if _ then _ else if _ then _ else _) _; rw [if_pos gd]; exact hr145⟩)
             · skip
               have gd : ¬ az_b Z 1 (zPid (az_t Z 0 p ja)) = 2 := fun z => h114 ((pm_e2 (hsm _ hqn 1 (by decide))).mpr z)
               refine pm_aload_n dX7_others_117 rfl ?_
               refine pm_iload_n dX7_others_118 rfl ?_
               refine pm_iload dX7_others_119 rfl ?_
               refine pm_iconst (v := 1) dX7_others_121 (by decide) ?_
               refine pm_vv (c_X7_link G l bs A E M p (zPid (az_t Z 0 p ja)) 1 _ hm (by omega) (by omega) (Or.inr rfl)) pm_y_X7_link pm_v_X7_link pm_m_X7_160 (c := 7) (r := (RX7, TX7, 41)) rfl rfl hm.1 dX7_others_122 rfl rfl (by decide) (Nat.le_of_ble_eq_true rfl) (fun S122 h122 => ?_)
               refine pm_goto (tgt := 550) dX7_others_125 (by decide) ?_
               subst hQ9
               refine pm_vret dX7_others_550 ?_
               first
               | (rw [if_pos k2] at hW; subst hW; exact ⟨M61, hm61, hr61⟩)
               | (rw [if_neg (fun z => z k2)] at hW; subst hW; exact ⟨M, hm, by show mR b (if _ then _ else if _ then _ else _) M; rw [if_neg (by rw [gq]; exact h02), if_pos gq]; exact hr⟩)
               | (rw [if_neg (fun z => z k2)] at hW; subst hW; exact ⟨_, h100, hr.link (v := false) (by omega) (by omega) rfl⟩)
               | (rw [if_neg (fun z => z k2)] at hW; subst hW; exact ⟨_, h122, by show mR b (if _ then _ else if _ then _ else _) _; rw [if_neg gd, if_neg gq]; exact hr.link (v := true) (by omega) (by omega) rfl⟩)
               | (rw [if_neg (fun z => z k2)] at hW; subst hW; exact ⟨M145, hm145, by show mR b (if _ then _ else if _ then _ else _) _; rw [if_pos gd]; exact hr145⟩)
           · exact absurd h92 (by decide)
         · skip
           have gq : (zPid (az_t Z 0 p ja)) = p := (nI_eq (by omega) (by omega)).mp h83
           refine pm_goto (tgt := 550) dX7_others_86 (by decide) ?_
           subst hQ9
           refine pm_vret dX7_others_550 ?_
           first
           | (rw [if_pos k2] at hW; subst hW; exact ⟨M61, hm61, hr61⟩)
           | (rw [if_neg (fun z => z k2)] at hW; subst hW; exact ⟨M, hm, by show mR b (if _ then _ else if _ then _ else _) M; rw [if_neg (by rw [gq]; exact h02), if_pos gq]; exact hr⟩)
           | (rw [if_neg (fun z => z k2)] at hW; subst hW; exact ⟨_, h100, hr.link (v := false) (by omega) (by omega) rfl⟩)
           | (rw [if_neg (fun z => z k2)] at hW; subst hW; exact ⟨_, h122, by show mR b (if _ then _ else if _ then _ else _) _; rw [if_neg gd, if_neg gq]; exact hr.link (v := true) (by omega) (by omega) rfl⟩)
           | (rw [if_neg (fun z => z k2)] at hW; subst hW; exact ⟨M145, hm145, by show mR b (if _ then _ else if _ then _ else _) _; rw [if_pos gd]; exact hr145⟩))
    · first
      | exact absurd rfl h64
      | (skip
         rcases h61b with ⟨g0, -⟩ | ⟨-, M61, hm61, hr61⟩
         case inl => exact absurd g0 (by decide)
         refine pm_goto (tgt := 550) dX7_others_67 (by decide) ?_
         subst hQ9
         refine pm_vret dX7_others_550 ?_
         first
         | (rw [if_pos k2] at hW; subst hW; exact ⟨M61, hm61, hr61⟩)
         | (rw [if_neg (fun z => z k2)] at hW; subst hW; exact ⟨M, hm, by show mR b (if _ then _ else if _ then _ else _) M; rw [if_neg (by rw [gq]; exact h02), if_pos gq]; exact hr⟩)
         | (rw [if_neg (fun z => z k2)] at hW; subst hW; exact ⟨_, h100, hr.link (v := false) (by omega) (by omega) rfl⟩)
         | (rw [if_neg (fun z => z k2)] at hW; subst hW; exact ⟨_, h122, by show mR b (if _ then _ else if _ then _ else _) _; rw [if_neg gd, if_neg gq]; exact hr.link (v := true) (by omega) (by omega) rfl⟩)
         | (rw [if_neg (fun z => z k2)] at hW; subst hW; exact ⟨M145, hm145, by show mR b (if _ then _ else if _ then _ else _) _; rw [if_pos gd]; exact hr145⟩))

set_option maxHeartbeats 4000000 in
set_option maxRecDepth 100000 in
theorem m_30 (G : pm_G) (l : Launch) (bs : Nat) (A : Nat → Nat) (E : pm_S) (M : pm_N) (b : Nat) (Z : az) (s : Nat) (p ja jb jc : Nat) (a bb c : Int32) (vo v9 v10 v11 : Value) (W : az) (S : pm_S) (hm : pm_MX M S A E) (hr : mR b Z M) (hI : zI s Z) (hp : p < az_a Z 0) (h0 : az_b Z 1 p = 0) (hja : ja < 8) (hjb : jb < 8) (hjc : jc < 8) (hW : (if zKind (az_t Z 0 p ja) ≠ 2 then zBad Z p else zLink Z p (zPid (az_t Z 0 p ja)) false) = W) : pm_W G l bs yX7_others.cls cX7_others 8 false 5 0 0 (pm_xv (fun S2 => ∃ M2, pm_MX M2 S2 A E ∧ mR b W M2)) 44 [.ref (A 50), .int (nI p), .int 30, .int a, .int bb, .int (nI (8 * p + ja)), .int (nI (8 * p + jb)), v9] [] S := by
  have hn := hI.1
  have hsm := hI.sm
  have h9b := hI.b9
  have h02 : az_b Z 1 p ≠ 2 := by omega
  have hsa := hr.G hp hja
  have hsb := hr.G hp hjb
  have hsc := hr.G hp hjc
  have hwa := hI.rg hp hja
  have hwb := hI.rg hp hjb
  have hwc := hI.rg hp hjc
  have hla := hwa.len
  have hlb := hwb.len
  have hlc := hwc.len
  generalize hQ9 : pm_xv (fun S2 => ∃ M2, pm_MX M2 S2 A E ∧ mR b W M2) = Q9
  refine pm_aload_n dX7_others_44 rfl ?_
  refine pm_iload_n dX7_others_45 rfl ?_
  refine pm_aload_n dX7_others_46 rfl ?_
  refine pm_iload dX7_others_47 rfl ?_
  refine pm_iconst (v := 2) dX7_others_49 (by decide) ?_
  refine pm_vi (c_X7_is G l bs A E M (8 * p + ja) 2 _ hm (by omega)) pm_y_X7_is pm_v_X7_is pm_m_X7_178 (c := 7) (r := (RX7, TX7, 41)) rfl rfl hm.1 dX7_others_50 rfl rfl (by decide) (Nat.le_of_ble_eq_true rfl) (fun x50 S50 h50 => ?_)
  obtain ⟨rfl, rfl⟩ := h50
  refine pm_if_ne (tgt := 60) dX7_others_53 (by decide) (fun h53 => ?_) (fun h53 => ?_)
  · skip
    have k2 : zKind (az_t Z 0 p ja) = 2 := (slK hsa hwa).2.2.1.mp (Classical.byContradiction (fun z => h53 (if_neg z)))
    refine pm_iconst (v := 0) dX7_others_60 (by decide) ?_
    refine pm_vi (c_X7_bad G l bs A E M b Z s p _ _ hm hr hI hp h02 (by first | exact Or.inl rfl | exact Or.inr rfl)) pm_y_X7_bad pm_v_X7_bad pm_m_X7_202 (c := 7) (r := (RX7, TX7, 41)) rfl rfl hm.1 dX7_others_61 rfl rfl (by decide) (Nat.le_of_ble_eq_true rfl) (fun x61 S61 h61 => ?_)
    obtain ⟨rfl, h61b⟩ := h61
    refine pm_if_eq (tgt := 70) dX7_others_64 (by decide) (fun h64 => ?_) (fun h64 => ?_)
    · first
      | exact absurd h64 (by decide)
      | (skip
         rcases h61b with ⟨-, rfl⟩ | ⟨g0, -⟩
         case inr => exact absurd rfl g0
         refine pm_aload_n dX7_others_70 rfl ?_
         refine pm_iload dX7_others_71 rfl ?_
         refine pm_vi (c_X7_valueOf G l bs A E M (8 * p + ja) _ hm (by omega)) pm_y_X7_valueOf pm_v_X7_valueOf pm_m_X7_181 (c := 7) (r := (RX7, TX7, 41)) rfl rfl hm.1 dX7_others_73 rfl rfl (by decide) (Nat.le_of_ble_eq_true rfl) (fun x73 S73 h73 => ?_)
         obtain ⟨rfl, rfl⟩ := h73
         rw [slV hsa hwa, (hwa.pid_of k2).2.2.2.2 (by omega)]
         have hqn := (hwa.pid_of k2).1
         refine pm_iconst (v := 1) dX7_others_76 (by decide) ?_
         refine pm_isub dX7_others_77 ?_
         rw [nI_pred]
         refine pm_istore dX7_others_78 (by decide) ?_
         dsimp only [List.set]
         refine pm_iload dX7_others_80 rfl ?_
         refine pm_iload_n dX7_others_82 rfl ?_
         refine pm_icmp_ne (tgt := 89) dX7_others_83 (by decide) (fun h83 => ?_) (fun h83 => ?_)
         · skip
           have gq : ¬ (zPid (az_t Z 0 p ja)) = p := fun z => h83 (by rw [z])
           refine pm_iload_n dX7_others_89 rfl ?_
           refine pm_bipush (v := 30) dX7_others_90 (by decide) ?_
           refine pm_icmp_ne (tgt := 106) dX7_others_92 (by decide) (fun h92 => ?_) (fun h92 => ?_)
           · exact absurd rfl h92
           · skip
             skip
             refine pm_aload_n dX7_others_95 rfl ?_
             refine pm_iload_n dX7_others_96 rfl ?_
             refine pm_iload dX7_others_97 rfl ?_
             refine pm_iconst (v := 0) dX7_others_99 (by decide) ?_
             refine pm_vv (c_X7_link G l bs A E M p (zPid (az_t Z 0 p ja)) 0 _ hm (by omega) (by omega) (Or.inl rfl)) pm_y_X7_link pm_v_X7_link pm_m_X7_160 (c := 7) (r := (RX7, TX7, 41)) rfl rfl hm.1 dX7_others_100 rfl rfl (by decide) (Nat.le_of_ble_eq_true rfl) (fun S100 h100 => ?_)
             refine pm_goto (tgt := 550) dX7_others_103 (by decide) ?_
             subst hQ9
             refine pm_vret dX7_others_550 ?_
             first
             | (rw [if_pos k2] at hW; subst hW; exact ⟨M61, hm61, hr61⟩)
             | (rw [if_neg (fun z => z k2)] at hW; subst hW; exact ⟨M, hm, by rw [gq, zLink_pp (by cases y : az_f Z p p; rfl; exact absurd rfl (hI.2.2.2.2.2.2.1 p p y).2.2.1)]; exact hr⟩)
             | (rw [if_neg (fun z => z k2)] at hW; subst hW; exact ⟨_, h100, hr.link (v := false) (by omega) (by omega) rfl⟩)
             | (rw [if_neg (fun z => z k2)] at hW; subst hW; exact ⟨_, h122, by show mR b (if _ then _ else if _ then _ else _) _; rw [if_neg gd, if_neg gq]; exact hr.link (v := true) (by omega) (by omega) rfl⟩)
             | (rw [if_neg (fun z => z k2)] at hW; subst hW; exact ⟨M145, hm145, by show mR b (if _ then _ else if _ then _ else _) _; rw [if_pos gd]; exact hr145⟩)
         · skip
           have gq : (zPid (az_t Z 0 p ja)) = p := (nI_eq (by omega) (by omega)).mp h83
           refine pm_goto (tgt := 550) dX7_others_86 (by decide) ?_
           subst hQ9
           refine pm_vret dX7_others_550 ?_
           first
           | (rw [if_pos k2] at hW; subst hW; exact ⟨M61, hm61, hr61⟩)
           | (rw [if_neg (fun z => z k2)] at hW; subst hW; exact ⟨M, hm, by rw [gq, zLink_pp (by cases y : az_f Z p p; rfl; exact absurd rfl (hI.2.2.2.2.2.2.1 p p y).2.2.1)]; exact hr⟩)
           | (rw [if_neg (fun z => z k2)] at hW; subst hW; exact ⟨_, h100, hr.link (v := false) (by omega) (by omega) rfl⟩)
           | (rw [if_neg (fun z => z k2)] at hW; subst hW; exact ⟨_, h122, by show mR b (if _ then _ else if _ then _ else _) _; rw [if_neg gd, if_neg gq]; exact hr.link (v := true) (by omega) (by omega) rfl⟩)
           | (rw [if_neg (fun z => z k2)] at hW; subst hW; exact ⟨M145, hm145, by show mR b (if _ then _ else if _ then _ else _) _; rw [if_pos gd]; exact hr145⟩))
    · first
      | exact absurd rfl h64
      | (skip
         rcases h61b with ⟨g0, -⟩ | ⟨-, M61, hm61, hr61⟩
         case inl => exact absurd g0 (by decide)
         refine pm_goto (tgt := 550) dX7_others_67 (by decide) ?_
         subst hQ9
         refine pm_vret dX7_others_550 ?_
         first
         | (rw [if_pos k2] at hW; subst hW; exact ⟨M61, hm61, hr61⟩)
         | (rw [if_neg (fun z => z k2)] at hW; subst hW; exact ⟨M, hm, by rw [gq, zLink_pp (by cases y : az_f Z p p; rfl; exact absurd rfl (hI.2.2.2.2.2.2.1 p p y).2.2.1)]; exact hr⟩)
         | (rw [if_neg (fun z => z k2)] at hW; subst hW; exact ⟨_, h100, hr.link (v := false) (by omega) (by omega) rfl⟩)
         | (rw [if_neg (fun z => z k2)] at hW; subst hW; exact ⟨_, h122, by show mR b (if _ then _ else if _ then _ else _) _; rw [if_neg gd, if_neg gq]; exact hr.link (v := true) (by omega) (by omega) rfl⟩)
         | (rw [if_neg (fun z => z k2)] at hW; subst hW; exact ⟨M145, hm145, by show mR b (if _ then _ else if _ then _ else _) _; rw [if_pos gd]; exact hr145⟩))
  · skip
    have k2 : ¬ zKind (az_t Z 0 p ja) = 2 := fun z => by rw [if_pos ((slK hsa hwa).2.2.1.mpr z)] at h53; cases h53
    refine pm_iconst (v := 1) dX7_others_56 (by decide) ?_
    refine pm_goto (tgt := 61) dX7_others_57 (by decide) ?_
    refine pm_vi (c_X7_bad G l bs A E M b Z s p _ _ hm hr hI hp h02 (by first | exact Or.inl rfl | exact Or.inr rfl)) pm_y_X7_bad pm_v_X7_bad pm_m_X7_202 (c := 7) (r := (RX7, TX7, 41)) rfl rfl hm.1 dX7_others_61 rfl rfl (by decide) (Nat.le_of_ble_eq_true rfl) (fun x61 S61 h61 => ?_)
    obtain ⟨rfl, h61b⟩ := h61
    refine pm_if_eq (tgt := 70) dX7_others_64 (by decide) (fun h64 => ?_) (fun h64 => ?_)
    · first
      | exact absurd h64 (by decide)
      | (skip
         rcases h61b with ⟨-, rfl⟩ | ⟨g0, -⟩
         case inr => exact absurd rfl g0
         refine pm_aload_n dX7_others_70 rfl ?_
         refine pm_iload dX7_others_71 rfl ?_
         refine pm_vi (c_X7_valueOf G l bs A E M (8 * p + ja) _ hm (by omega)) pm_y_X7_valueOf pm_v_X7_valueOf pm_m_X7_181 (c := 7) (r := (RX7, TX7, 41)) rfl rfl hm.1 dX7_others_73 rfl rfl (by decide) (Nat.le_of_ble_eq_true rfl) (fun x73 S73 h73 => ?_)
         obtain ⟨rfl, rfl⟩ := h73
         rw [slV hsa hwa, (hwa.pid_of k2).2.2.2.2 (by omega)]
         have hqn := (hwa.pid_of k2).1
         refine pm_iconst (v := 1) dX7_others_76 (by decide) ?_
         refine pm_isub dX7_others_77 ?_
         rw [nI_pred]
         refine pm_istore dX7_others_78 (by decide) ?_
         dsimp only [List.set]
         refine pm_iload dX7_others_80 rfl ?_
         refine pm_iload_n dX7_others_82 rfl ?_
         refine pm_icmp_ne (tgt := 89) dX7_others_83 (by decide) (fun h83 => ?_) (fun h83 => ?_)
         · skip
           have gq : ¬ (zPid (az_t Z 0 p ja)) = p := fun z => h83 (by rw [z])
           refine pm_iload_n dX7_others_89 rfl ?_
           refine pm_bipush (v := 30) dX7_others_90 (by decide) ?_
           refine pm_icmp_ne (tgt := 106) dX7_others_92 (by decide) (fun h92 => ?_) (fun h92 => ?_)
           · exact absurd rfl h92
           · skip
             skip
             refine pm_aload_n dX7_others_95 rfl ?_
             refine pm_iload_n dX7_others_96 rfl ?_
             refine pm_iload dX7_others_97 rfl ?_
             refine pm_iconst (v := 0) dX7_others_99 (by decide) ?_
             refine pm_vv (c_X7_link G l bs A E M p (zPid (az_t Z 0 p ja)) 0 _ hm (by omega) (by omega) (Or.inl rfl)) pm_y_X7_link pm_v_X7_link pm_m_X7_160 (c := 7) (r := (RX7, TX7, 41)) rfl rfl hm.1 dX7_others_100 rfl rfl (by decide) (Nat.le_of_ble_eq_true rfl) (fun S100 h100 => ?_)
             refine pm_goto (tgt := 550) dX7_others_103 (by decide) ?_
             subst hQ9
             refine pm_vret dX7_others_550 ?_
             first
             | (rw [if_pos k2] at hW; subst hW; exact ⟨M61, hm61, hr61⟩)
             | (rw [if_neg (fun z => z k2)] at hW; subst hW; exact ⟨M, hm, by rw [gq, zLink_pp (by cases y : az_f Z p p; rfl; exact absurd rfl (hI.2.2.2.2.2.2.1 p p y).2.2.1)]; exact hr⟩)
             | (rw [if_neg (fun z => z k2)] at hW; subst hW; exact ⟨_, h100, hr.link (v := false) (by omega) (by omega) rfl⟩)
             | (rw [if_neg (fun z => z k2)] at hW; subst hW; exact ⟨_, h122, by show mR b (if _ then _ else if _ then _ else _) _; rw [if_neg gd, if_neg gq]; exact hr.link (v := true) (by omega) (by omega) rfl⟩)
             | (rw [if_neg (fun z => z k2)] at hW; subst hW; exact ⟨M145, hm145, by show mR b (if _ then _ else if _ then _ else _) _; rw [if_pos gd]; exact hr145⟩)
         · skip
           have gq : (zPid (az_t Z 0 p ja)) = p := (nI_eq (by omega) (by omega)).mp h83
           refine pm_goto (tgt := 550) dX7_others_86 (by decide) ?_
           subst hQ9
           refine pm_vret dX7_others_550 ?_
           first
           | (rw [if_pos k2] at hW; subst hW; exact ⟨M61, hm61, hr61⟩)
           | (rw [if_neg (fun z => z k2)] at hW; subst hW; exact ⟨M, hm, by rw [gq, zLink_pp (by cases y : az_f Z p p; rfl; exact absurd rfl (hI.2.2.2.2.2.2.1 p p y).2.2.1)]; exact hr⟩)
           | (rw [if_neg (fun z => z k2)] at hW; subst hW; exact ⟨_, h100, hr.link (v := false) (by omega) (by omega) rfl⟩)
           | (rw [if_neg (fun z => z k2)] at hW; subst hW; exact ⟨_, h122, by show mR b (if _ then _ else if _ then _ else _) _; rw [if_neg gd, if_neg gq]; exact hr.link (v := true) (by omega) (by omega) rfl⟩)
           | (rw [if_neg (fun z => z k2)] at hW; subst hW; exact ⟨M145, hm145, by show mR b (if _ then _ else if _ then _ else _) _; rw [if_pos gd]; exact hr145⟩))
    · first
      | exact absurd rfl h64
      | (skip
         rcases h61b with ⟨g0, -⟩ | ⟨-, M61, hm61, hr61⟩
         case inl => exact absurd g0 (by decide)
         refine pm_goto (tgt := 550) dX7_others_67 (by decide) ?_
         subst hQ9
         refine pm_vret dX7_others_550 ?_
         first
         | (rw [if_pos k2] at hW; subst hW; exact ⟨M61, hm61, hr61⟩)
         | (rw [if_neg (fun z => z k2)] at hW; subst hW; exact ⟨M, hm, by rw [gq, zLink_pp (by cases y : az_f Z p p; rfl; exact absurd rfl (hI.2.2.2.2.2.2.1 p p y).2.2.1)]; exact hr⟩)
         | (rw [if_neg (fun z => z k2)] at hW; subst hW; exact ⟨_, h100, hr.link (v := false) (by omega) (by omega) rfl⟩)
         | (rw [if_neg (fun z => z k2)] at hW; subst hW; exact ⟨_, h122, by show mR b (if _ then _ else if _ then _ else _) _; rw [if_neg gd, if_neg gq]; exact hr.link (v := true) (by omega) (by omega) rfl⟩)
         | (rw [if_neg (fun z => z k2)] at hW; subst hW; exact ⟨M145, hm145, by show mR b (if _ then _ else if _ then _ else _) _; rw [if_pos gd]; exact hr145⟩))

theorem zWt_d {Z : az} {p j r : Nat} (h1 : ¬ 200 ≤ (az_w Z).length) (h2 : az_b Z 1 r = 2) : zWt Z p j (some r) = zDown (zs_t (zs_a Z 8 (az_a Z 8 + 1)) 0 p j [0, nI (az_a Z 8 + 1)]) p (az_a Z 8 + 1) r [1, 3] := by
  show (if _ then _ else if _ then _ else _) = _
  rw [if_neg h1, if_pos h2]
theorem zWt_a {Z : az} {p j r : Nat} (h1 : ¬ 200 ≤ (az_w Z).length) (h2 : ¬ az_b Z 1 r = 2) : zWt Z p j (some r) = zs_w (zs_t (zs_a Z 8 (az_a Z 8 + 1)) 0 p j [0, nI (az_a Z 8 + 1)]) (az_w Z ++ [(az_a Z 8 + 1, p, r)]) := by
  show (if _ then _ else if _ then _ else _) = _
  rw [if_neg h1, if_neg h2]
set_option maxHeartbeats 4000000 in
set_option maxRecDepth 100000 in
theorem m_31 (G : pm_G) (l : Launch) (bs : Nat) (A : Nat → Nat) (E : pm_S) (M : pm_N) (b : Nat) (Z : az) (s : Nat) (p ja jb jc : Nat) (a bb c : Int32) (vo v9 v10 v11 : Value) (W : az) (S : pm_S) (hm : pm_MX M S A E) (hr : mR b Z M) (hI : zI s Z) (hp : p < az_a Z 0) (h0 : az_b Z 1 p = 0) (hja : ja < 8) (hjb : jb < 8) (hjc : jc < 8) (hW : (if zKind (az_t Z 0 p jb) ≠ 2 then zBad Z p else if 200 ≤ (az_w Z).length then zLim Z p else zWt Z p ja (some (zPid (az_t Z 0 p jb)))) = W) : pm_W G l bs yX7_others.cls cX7_others 8 false 5 0 0 (pm_xv (fun S2 => ∃ M2, pm_MX M2 S2 A E ∧ mR b W M2)) 151 [.ref (A 50), .int (nI p), vo, .int a, .int bb, .int (nI (8 * p + ja)), .int (nI (8 * p + jb)), v9] [] S := by
  have hn := hI.1
  have hsm := hI.sm
  have h9b := hI.b9
  have h02 : az_b Z 1 p ≠ 2 := by omega
  have hsa := hr.G hp hja
  have hsb := hr.G hp hjb
  have hsc := hr.G hp hjc
  have hwa := hI.rg hp hja
  have hwb := hI.rg hp hjb
  have hwc := hI.rg hp hjc
  have hla := hwa.len
  have hlb := hwb.len
  have hlc := hwc.len
  generalize hQ9 : pm_xv (fun S2 => ∃ M2, pm_MX M2 S2 A E ∧ mR b W M2) = Q9
  have hv : mV (az_w Z) M := hr.2.2.2.2.2.2.2.1
  have hwl : (az_w Z).length ≤ 200 := hI.2.2.2.2.2.2.2.2.1.1
  refine pm_aload_n dX7_others_151 rfl ?_
  refine pm_iload_n dX7_others_152 rfl ?_
  refine pm_aload_n dX7_others_153 rfl ?_
  refine pm_iload dX7_others_154 rfl ?_
  refine pm_iconst (v := 2) dX7_others_156 (by decide) ?_
  refine pm_vi (c_X7_is G l bs A E M (8 * p + jb) 2 _ hm (by omega)) pm_y_X7_is pm_v_X7_is pm_m_X7_178 (c := 7) (r := (RX7, TX7, 41)) rfl rfl hm.1 dX7_others_157 rfl rfl (by decide) (Nat.le_of_ble_eq_true rfl) (fun x157 S157 h157 => ?_)
  obtain ⟨rfl, rfl⟩ := h157
  refine pm_if_ne (tgt := 167) dX7_others_160 (by decide) (fun h160 => ?_) (fun h160 => ?_)
  · skip
    have k2 : zKind (az_t Z 0 p jb) = 2 := (slK hsb hwb).2.2.1.mp (Classical.byContradiction (fun z => h160 (if_neg z)))
    refine pm_iconst (v := 0) dX7_others_167 (by decide) ?_
    refine pm_vi (c_X7_bad G l bs A E M b Z s p _ _ hm hr hI hp h02 (by first | exact Or.inl rfl | exact Or.inr rfl)) pm_y_X7_bad pm_v_X7_bad pm_m_X7_202 (c := 7) (r := (RX7, TX7, 41)) rfl rfl hm.1 dX7_others_168 rfl rfl (by decide) (Nat.le_of_ble_eq_true rfl) (fun x168 S168 h168 => ?_)
    obtain ⟨rfl, h168b⟩ := h168
    refine pm_if_eq (tgt := 177) dX7_others_171 (by decide) (fun h171 => ?_) (fun h171 => ?_)
    · first
      | exact absurd h171 (by decide)
      | (skip
         rcases h168b with ⟨-, rfl⟩ | ⟨g0, -⟩
         case inr => exact absurd rfl g0
         refine pm_aload_n dX7_others_177 rfl ?_
         refine pm_iload dX7_others_178 rfl ?_
         refine pm_vi (c_X7_valueOf G l bs A E M (8 * p + jb) _ hm (by omega)) pm_y_X7_valueOf pm_v_X7_valueOf pm_m_X7_181 (c := 7) (r := (RX7, TX7, 41)) rfl rfl hm.1 dX7_others_180 rfl rfl (by decide) (Nat.le_of_ble_eq_true rfl) (fun x180 S180 h180 => ?_)
         obtain ⟨rfl, rfl⟩ := h180
         rw [slV hsb hwb, (hwb.pid_of k2).2.2.2.2 (by omega)]
         have hqn := (hwb.pid_of k2).1
         refine pm_iconst (v := 1) dX7_others_183 (by decide) ?_
         refine pm_isub dX7_others_184 ?_
         rw [nI_pred]
         refine pm_istore dX7_others_185 (by decide) ?_
         dsimp only [List.set]
         refine pm_aload_n dX7_others_187 rfl ?_
         refine pm_g_Model_watchCount hm.1 pm_f_X7_151 dX7_others_188 ?_
         rw [hm.f (g := 380) (f := 30) rfl]
         refine pm_sipush (v := 200) dX7_others_191 (by decide) ?_
         rw [hv.1]
         refine pm_icmp_ne (tgt := 207) dX7_others_194 (by decide) (fun h194 => ?_) (fun h194 => ?_)
         · skip
           have g2 : ¬ 200 ≤ (az_w Z).length := by have q : ¬ (az_w Z).length = 200 := fun z => h194 (by rw [z]; rfl); omega
           refine pm_aload_n dX7_others_207 rfl ?_
           refine pm_dup dX7_others_208 ?_
           refine pm_g_Model_made hm.1 pm_f_X7_257 dX7_others_209 ?_
           rw [hm.f (g := 381) (f := 31) rfl]
           refine pm_iconst (v := 1) dX7_others_212 (by decide) ?_
           refine pm_iadd dX7_others_213 ?_
           rw [hr.A (i := 8) rfl, nI_1]
           refine pm_p_Model_made hm.1 pm_f_X7_257 dX7_others_214 ?_
           refine mm_gen (hm.si (g := 381) (f := 31) rfl) (fun S214 hm214 => ?_)
           have hr214 := hr.a0 (f := 31) (i := 8) (v := (az_a Z 8 + 1)) rfl (by decide)
           refine pm_aload_n dX7_others_217 rfl ?_
           refine pm_iload dX7_others_218 rfl ?_
           refine pm_iconst (v := 0) dX7_others_220 (by decide) ?_
           refine pm_aload_n dX7_others_221 rfl ?_
           refine pm_g_Model_made hm214.1 pm_f_X7_257 dX7_others_222 ?_
           rw [hm214.f (g := 381) (f := 31) rfl]
           rw [mi_2, if_pos rfl]
           refine pm_vv (c_X7_set G l bs A E _ (8 * p + ja) 0 (nI (az_a Z 8 + 1)) _ hm214 (by omega)) pm_y_X7_set pm_v_X7_set pm_m_X7_124 (c := 7) (r := (RX7, TX7, 41)) rfl rfl hm214.1 dX7_others_225 rfl rfl (by decide) (Nat.le_of_ble_eq_true rfl) (fun S225 h225 => ?_)
           obtain ⟨M225, hm225, mt225, sl225⟩ := h225
           have hr225 := hr214.reg (p := p) (j := ja) hn h9b hp hja mt225 sl225
           have hI225 : zI s (zs_t (zs_a Z 8 (az_a Z 8 + 1)) 0 p ja [0, nI (az_a Z 8 + 1)]) := (hI.sa (i := 8) (by omega)).t0 (tW.num _)
           have mk : M225.2 31 = nI (az_a Z 8 + 1) := by rw [mt225.2, mi_2, if_pos rfl]
           have ml : M225.2 30 = nI (az_w Z).length := by rw [mt225.2, mi_2, if_neg (by decide)]; exact hv.1
           have hv225 : mV (az_w Z) M225 := hr225.2.2.2.2.2.2.2.1
           refine pm_aload_n dX7_others_228 rfl ?_
           refine pm_g_Model_state hm225.1 pm_f_X7_29 (hm225.2.1 6 (by decide)).1 dX7_others_229 ?_
           refine pm_iload dX7_others_232 rfl ?_
           refine mm_iaload (n := _) hm225 (by decide) rfl (by show _ < 60; omega) dX7_others_234 ?_
           refine pm_iconst (v := 2) dX7_others_235 (by decide) ?_
           rw [hr225.B (i := 1) hqn rfl]
           refine pm_icmp_eq (tgt := 286) dX7_others_236 (by decide) (fun h236 => ?_) (fun h236 => ?_)
           · skip
             have gd : az_b Z 1 (zPid (az_t Z 0 p jb)) = 2 := (pm_e2 (hsm _ hqn 1 (by decide))).mp h236
             refine pm_aload_n dX7_others_286 rfl ?_
             refine pm_sipush (v := 2944) dX7_others_287 (by decide) ?_
             refine pm_iconst (v := 1) dX7_others_290 (by decide) ?_
             refine pm_iconst (v := 3) dX7_others_291 (by decide) ?_
             refine pm_vv (c_X7_set G l bs A E M225 2944 1 3 _ hm225 (by decide)) pm_y_X7_set pm_v_X7_set pm_m_X7_124 (c := 7) (r := (RX7, TX7, 41)) rfl rfl hm225.1 dX7_others_292 rfl rfl (by decide) (Nat.le_of_ble_eq_true rfl) (fun S292 h292 => ?_)
             obtain ⟨M292, hm292, mt292, sl292⟩ := h292
             have hr292 := hr225.T hn h9b mt292 (by decide)
             refine pm_aload_n dX7_others_295 rfl ?_
             refine pm_iload_n dX7_others_296 rfl ?_
             refine pm_aload_n dX7_others_297 rfl ?_
             refine pm_g_Model_made hm292.1 pm_f_X7_257 dX7_others_298 ?_
             rw [hm292.f (g := 381) (f := 31) rfl]
             refine pm_iload dX7_others_301 rfl ?_
             refine pm_sipush (v := 2944) dX7_others_303 (by decide) ?_
             rw [mt292.2, mk]
             refine pm_vv (c_X7_tellsDown G l bs A E M292 b (zs_t (zs_a Z 8 (az_a Z 8 + 1)) 0 p ja [0, nI (az_a Z 8 + 1)]) s p (zPid (az_t Z 0 p jb)) 2944 (nI (az_a Z 8 + 1)) [1, 3] _ hm292 hr292 hI225 hp (by decide) (by decide) sl292 (tW.atom (by decide) (by decide))) pm_y_X7_tellsDown pm_v_X7_tellsDown pm_m_X7_168 (c := 7) (r := (RX7, TX7, 41)) rfl rfl hm292.1 dX7_others_306 rfl rfl (by decide) (Nat.le_of_ble_eq_true rfl) (fun S306 h306 => ?_)
             obtain ⟨M306, hm306, hr306⟩ := h306
             refine pm_goto (tgt := 550) dX7_others_309 (by decide) ?_
             subst hQ9
             refine pm_vret dX7_others_550 ?_
             first
             | (rw [if_pos k2] at hW; subst hW; exact ⟨M168, hm168, hr168⟩)
             | (rw [if_neg (fun z => z k2), if_pos g2] at hW; subst hW; exact ⟨M201, hm201, hr201⟩)
             | (rw [if_neg (fun z => z k2), if_neg g2, zWt_d g2 gd] at hW; subst hW; exact ⟨M306, hm306, hr306⟩)
             | (rw [if_neg (fun z => z k2), if_neg g2, zWt_a g2 gd] at hW
                subst hW
                refine ⟨_, hm280, hr225.wl ⟨fun s j a1 a2 a3 => by rw [mi_1, mx_o a3, mx_o a2, mx_o a1], fun f hf => by rw [mi_2, if_neg hf]; rfl⟩ ⟨by rw [mi_2, if_pos rfl, List.length_append]; rfl, fun i t hi => ?_⟩⟩
                rw [mi_1, mi_1, mi_1, mx_o (s' := 27) (by decide), mx_o (s' := 27) (by decide), mx_o (s' := 28) (by decide)]
                by_cases e : i = (az_w Z).length
                · rw [e, List.getElem?_append_right (Nat.le_refl _), Nat.sub_self] at hi
                  obtain rfl := Option.some.inj hi
                  rw [e, mx_s, mx_s, mx_s]
                  exact ⟨rfl, rfl, rfl⟩
                · repeat rw [mx_k e]
                  have hlt : i < (az_w Z).length := by have q := (List.getElem?_eq_some_iff.mp hi).1; rw [List.length_append, List.length_cons, List.length_nil] at q; omega
                  rw [List.getElem?_append_left hlt] at hi
                  exact hv225.2 i t hi)
           · skip
             have gd : ¬ az_b Z 1 (zPid (az_t Z 0 p jb)) = 2 := fun z => h236 ((pm_e2 (hsm _ hqn 1 (by decide))).mpr z)
             refine pm_aload_n dX7_others_239 rfl ?_
             refine pm_g_Model_watchers hm225.1 pm_f_X7_87 (hm225.2.1 27 (by decide)).1 dX7_others_240 ?_
             refine pm_aload_n dX7_others_243 rfl ?_
             refine pm_g_Model_watchCount hm225.1 pm_f_X7_151 dX7_others_244 ?_
             rw [hm225.f (g := 380) (f := 30) rfl]
             refine pm_iload_n dX7_others_247 rfl ?_
             refine mm_iastore (n := (az_w Z).length) hm225 (by decide) ml (by show _ < 200; omega) dX7_others_248 (fun S248 hm248 => ?_)
             refine pm_aload_n dX7_others_249 rfl ?_
             refine pm_g_Model_watched hm248.1 pm_f_X7_90 (hm248.2.1 28 (by decide)).1 dX7_others_250 ?_
             refine pm_aload_n dX7_others_253 rfl ?_
             refine pm_g_Model_watchCount hm248.1 pm_f_X7_151 dX7_others_254 ?_
             rw [hm248.f (g := 380) (f := 30) rfl]
             refine pm_iload dX7_others_257 rfl ?_
             rw [mx_2]
             refine mm_iastore (n := (az_w Z).length) hm248 (by decide) ml (by show _ < 200; omega) dX7_others_259 (fun S259 hm259 => ?_)
             refine pm_aload_n dX7_others_260 rfl ?_
             refine pm_g_Model_numbers hm259.1 pm_f_X7_93 (hm259.2.1 29 (by decide)).1 dX7_others_261 ?_
             refine pm_aload_n dX7_others_264 rfl ?_
             refine pm_g_Model_watchCount hm259.1 pm_f_X7_151 dX7_others_265 ?_
             rw [hm259.f (g := 380) (f := 30) rfl]
             refine pm_aload_n dX7_others_268 rfl ?_
             refine pm_g_Model_made hm259.1 pm_f_X7_257 dX7_others_269 ?_
             rw [hm259.f (g := 381) (f := 31) rfl]
             rw [mx_2, mx_2, mx_2, mx_2, mk]
             refine mm_iastore (n := (az_w Z).length) hm259 (by decide) ml (by show _ < 200; omega) dX7_others_272 (fun S272 hm272 => ?_)
             refine pm_aload_n dX7_others_273 rfl ?_
             refine pm_dup dX7_others_274 ?_
             refine pm_g_Model_watchCount hm272.1 pm_f_X7_151 dX7_others_275 ?_
             rw [hm272.f (g := 380) (f := 30) rfl]
             refine pm_iconst (v := 1) dX7_others_278 (by decide) ?_
             refine pm_iadd dX7_others_279 ?_
             rw [mx_2, mx_2, mx_2, ml, nI_1]
             refine pm_p_Model_watchCount hm272.1 pm_f_X7_151 dX7_others_280 ?_
             refine mm_gen (hm272.si (g := 380) (f := 30) rfl) (fun S280 hm280 => ?_)
             refine pm_goto (tgt := 550) dX7_others_283 (by decide) ?_
             subst hQ9
             refine pm_vret dX7_others_550 ?_
             first
             | (rw [if_pos k2] at hW; subst hW; exact ⟨M168, hm168, hr168⟩)
             | (rw [if_neg (fun z => z k2), if_pos g2] at hW; subst hW; exact ⟨M201, hm201, hr201⟩)
             | (rw [if_neg (fun z => z k2), if_neg g2, zWt_d g2 gd] at hW; subst hW; exact ⟨M306, hm306, hr306⟩)
             | (rw [if_neg (fun z => z k2), if_neg g2, zWt_a g2 gd] at hW
                subst hW
                refine ⟨_, hm280, hr225.wl ⟨fun s j a1 a2 a3 => by rw [mi_1, mx_o a3, mx_o a2, mx_o a1], fun f hf => by rw [mi_2, if_neg hf]; rfl⟩ ⟨by rw [mi_2, if_pos rfl, List.length_append]; rfl, fun i t hi => ?_⟩⟩
                rw [mi_1, mi_1, mi_1, mx_o (s' := 27) (by decide), mx_o (s' := 27) (by decide), mx_o (s' := 28) (by decide)]
                by_cases e : i = (az_w Z).length
                · rw [e, List.getElem?_append_right (Nat.le_refl _), Nat.sub_self] at hi
                  obtain rfl := Option.some.inj hi
                  rw [e, mx_s, mx_s, mx_s]
                  exact ⟨rfl, rfl, rfl⟩
                · repeat rw [mx_k e]
                  have hlt : i < (az_w Z).length := by have q := (List.getElem?_eq_some_iff.mp hi).1; rw [List.length_append, List.length_cons, List.length_nil] at q; omega
                  rw [List.getElem?_append_left hlt] at hi
                  exact hv225.2 i t hi)
         · skip
           have g2 : 200 ≤ (az_w Z).length := by have q : (az_w Z).length = 200 := (nI_eq (b := 200) (by omega) (by decide)).mp h194; omega
           refine pm_aload_n dX7_others_197 rfl ?_
           refine pm_iload_n dX7_others_198 rfl ?_
           refine pm_iconst (v := 1) dX7_others_199 (by decide) ?_
           refine pm_iconst (v := 5) dX7_others_200 (by decide) ?_
           refine pm_vv (c_X7_failsWith G l bs A E M b Z s p 1 5 _ hm hr hI hp h02) pm_y_X7_failsWith pm_v_X7_failsWith pm_m_X7_193 (c := 7) (r := (RX7, TX7, 41)) rfl rfl hm.1 dX7_others_201 rfl rfl (by decide) (Nat.le_of_ble_eq_true rfl) (fun S201 h201 => ?_)
           obtain ⟨M201, hm201, hr201⟩ := h201
           refine pm_goto (tgt := 550) dX7_others_204 (by decide) ?_
           subst hQ9
           refine pm_vret dX7_others_550 ?_
           first
           | (rw [if_pos k2] at hW; subst hW; exact ⟨M168, hm168, hr168⟩)
           | (rw [if_neg (fun z => z k2), if_pos g2] at hW; subst hW; exact ⟨M201, hm201, hr201⟩)
           | (rw [if_neg (fun z => z k2), if_neg g2, zWt_d g2 gd] at hW; subst hW; exact ⟨M306, hm306, hr306⟩)
           | (rw [if_neg (fun z => z k2), if_neg g2, zWt_a g2 gd] at hW
              subst hW
              refine ⟨_, hm280, hr225.wl ⟨fun s j a1 a2 a3 => by rw [mi_1, mx_o a3, mx_o a2, mx_o a1], fun f hf => by rw [mi_2, if_neg hf]; rfl⟩ ⟨by rw [mi_2, if_pos rfl, List.length_append]; rfl, fun i t hi => ?_⟩⟩
              rw [mi_1, mi_1, mi_1, mx_o (s' := 27) (by decide), mx_o (s' := 27) (by decide), mx_o (s' := 28) (by decide)]
              by_cases e : i = (az_w Z).length
              · rw [e, List.getElem?_append_right (Nat.le_refl _), Nat.sub_self] at hi
                obtain rfl := Option.some.inj hi
                rw [e, mx_s, mx_s, mx_s]
                exact ⟨rfl, rfl, rfl⟩
              · repeat rw [mx_k e]
                have hlt : i < (az_w Z).length := by have q := (List.getElem?_eq_some_iff.mp hi).1; rw [List.length_append, List.length_cons, List.length_nil] at q; omega
                rw [List.getElem?_append_left hlt] at hi
                exact hv225.2 i t hi))
    · first
      | exact absurd rfl h171
      | (skip
         rcases h168b with ⟨g0, -⟩ | ⟨-, M168, hm168, hr168⟩
         case inl => exact absurd g0 (by decide)
         refine pm_goto (tgt := 550) dX7_others_174 (by decide) ?_
         subst hQ9
         refine pm_vret dX7_others_550 ?_
         first
         | (rw [if_pos k2] at hW; subst hW; exact ⟨M168, hm168, hr168⟩)
         | (rw [if_neg (fun z => z k2), if_pos g2] at hW; subst hW; exact ⟨M201, hm201, hr201⟩)
         | (rw [if_neg (fun z => z k2), if_neg g2, zWt_d g2 gd] at hW; subst hW; exact ⟨M306, hm306, hr306⟩)
         | (rw [if_neg (fun z => z k2), if_neg g2, zWt_a g2 gd] at hW
            subst hW
            refine ⟨_, hm280, hr225.wl ⟨fun s j a1 a2 a3 => by rw [mi_1, mx_o a3, mx_o a2, mx_o a1], fun f hf => by rw [mi_2, if_neg hf]; rfl⟩ ⟨by rw [mi_2, if_pos rfl, List.length_append]; rfl, fun i t hi => ?_⟩⟩
            rw [mi_1, mi_1, mi_1, mx_o (s' := 27) (by decide), mx_o (s' := 27) (by decide), mx_o (s' := 28) (by decide)]
            by_cases e : i = (az_w Z).length
            · rw [e, List.getElem?_append_right (Nat.le_refl _), Nat.sub_self] at hi
              obtain rfl := Option.some.inj hi
              rw [e, mx_s, mx_s, mx_s]
              exact ⟨rfl, rfl, rfl⟩
            · repeat rw [mx_k e]
              have hlt : i < (az_w Z).length := by have q := (List.getElem?_eq_some_iff.mp hi).1; rw [List.length_append, List.length_cons, List.length_nil] at q; omega
              rw [List.getElem?_append_left hlt] at hi
              exact hv225.2 i t hi))
  · skip
    have k2 : ¬ zKind (az_t Z 0 p jb) = 2 := fun z => by rw [if_pos ((slK hsb hwb).2.2.1.mpr z)] at h160; cases h160
    refine pm_iconst (v := 1) dX7_others_163 (by decide) ?_
    refine pm_goto (tgt := 168) dX7_others_164 (by decide) ?_
    refine pm_vi (c_X7_bad G l bs A E M b Z s p _ _ hm hr hI hp h02 (by first | exact Or.inl rfl | exact Or.inr rfl)) pm_y_X7_bad pm_v_X7_bad pm_m_X7_202 (c := 7) (r := (RX7, TX7, 41)) rfl rfl hm.1 dX7_others_168 rfl rfl (by decide) (Nat.le_of_ble_eq_true rfl) (fun x168 S168 h168 => ?_)
    obtain ⟨rfl, h168b⟩ := h168
    refine pm_if_eq (tgt := 177) dX7_others_171 (by decide) (fun h171 => ?_) (fun h171 => ?_)
    · first
      | exact absurd h171 (by decide)
      | (skip
         rcases h168b with ⟨-, rfl⟩ | ⟨g0, -⟩
         case inr => exact absurd rfl g0
         refine pm_aload_n dX7_others_177 rfl ?_
         refine pm_iload dX7_others_178 rfl ?_
         refine pm_vi (c_X7_valueOf G l bs A E M (8 * p + jb) _ hm (by omega)) pm_y_X7_valueOf pm_v_X7_valueOf pm_m_X7_181 (c := 7) (r := (RX7, TX7, 41)) rfl rfl hm.1 dX7_others_180 rfl rfl (by decide) (Nat.le_of_ble_eq_true rfl) (fun x180 S180 h180 => ?_)
         obtain ⟨rfl, rfl⟩ := h180
         rw [slV hsb hwb, (hwb.pid_of k2).2.2.2.2 (by omega)]
         have hqn := (hwb.pid_of k2).1
         refine pm_iconst (v := 1) dX7_others_183 (by decide) ?_
         refine pm_isub dX7_others_184 ?_
         rw [nI_pred]
         refine pm_istore dX7_others_185 (by decide) ?_
         dsimp only [List.set]
         refine pm_aload_n dX7_others_187 rfl ?_
         refine pm_g_Model_watchCount hm.1 pm_f_X7_151 dX7_others_188 ?_
         rw [hm.f (g := 380) (f := 30) rfl]
         refine pm_sipush (v := 200) dX7_others_191 (by decide) ?_
         rw [hv.1]
         refine pm_icmp_ne (tgt := 207) dX7_others_194 (by decide) (fun h194 => ?_) (fun h194 => ?_)
         · skip
           have g2 : ¬ 200 ≤ (az_w Z).length := by have q : ¬ (az_w Z).length = 200 := fun z => h194 (by rw [z]; rfl); omega
           refine pm_aload_n dX7_others_207 rfl ?_
           refine pm_dup dX7_others_208 ?_
           refine pm_g_Model_made hm.1 pm_f_X7_257 dX7_others_209 ?_
           rw [hm.f (g := 381) (f := 31) rfl]
           refine pm_iconst (v := 1) dX7_others_212 (by decide) ?_
           refine pm_iadd dX7_others_213 ?_
           rw [hr.A (i := 8) rfl, nI_1]
           refine pm_p_Model_made hm.1 pm_f_X7_257 dX7_others_214 ?_
           refine mm_gen (hm.si (g := 381) (f := 31) rfl) (fun S214 hm214 => ?_)
           have hr214 := hr.a0 (f := 31) (i := 8) (v := (az_a Z 8 + 1)) rfl (by decide)
           refine pm_aload_n dX7_others_217 rfl ?_
           refine pm_iload dX7_others_218 rfl ?_
           refine pm_iconst (v := 0) dX7_others_220 (by decide) ?_
           refine pm_aload_n dX7_others_221 rfl ?_
           refine pm_g_Model_made hm214.1 pm_f_X7_257 dX7_others_222 ?_
           rw [hm214.f (g := 381) (f := 31) rfl]
           rw [mi_2, if_pos rfl]
           refine pm_vv (c_X7_set G l bs A E _ (8 * p + ja) 0 (nI (az_a Z 8 + 1)) _ hm214 (by omega)) pm_y_X7_set pm_v_X7_set pm_m_X7_124 (c := 7) (r := (RX7, TX7, 41)) rfl rfl hm214.1 dX7_others_225 rfl rfl (by decide) (Nat.le_of_ble_eq_true rfl) (fun S225 h225 => ?_)
           obtain ⟨M225, hm225, mt225, sl225⟩ := h225
           have hr225 := hr214.reg (p := p) (j := ja) hn h9b hp hja mt225 sl225
           have hI225 : zI s (zs_t (zs_a Z 8 (az_a Z 8 + 1)) 0 p ja [0, nI (az_a Z 8 + 1)]) := (hI.sa (i := 8) (by omega)).t0 (tW.num _)
           have mk : M225.2 31 = nI (az_a Z 8 + 1) := by rw [mt225.2, mi_2, if_pos rfl]
           have ml : M225.2 30 = nI (az_w Z).length := by rw [mt225.2, mi_2, if_neg (by decide)]; exact hv.1
           have hv225 : mV (az_w Z) M225 := hr225.2.2.2.2.2.2.2.1
           refine pm_aload_n dX7_others_228 rfl ?_
           refine pm_g_Model_state hm225.1 pm_f_X7_29 (hm225.2.1 6 (by decide)).1 dX7_others_229 ?_
           refine pm_iload dX7_others_232 rfl ?_
           refine mm_iaload (n := _) hm225 (by decide) rfl (by show _ < 60; omega) dX7_others_234 ?_
           refine pm_iconst (v := 2) dX7_others_235 (by decide) ?_
           rw [hr225.B (i := 1) hqn rfl]
           refine pm_icmp_eq (tgt := 286) dX7_others_236 (by decide) (fun h236 => ?_) (fun h236 => ?_)
           · skip
             have gd : az_b Z 1 (zPid (az_t Z 0 p jb)) = 2 := (pm_e2 (hsm _ hqn 1 (by decide))).mp h236
             refine pm_aload_n dX7_others_286 rfl ?_
             refine pm_sipush (v := 2944) dX7_others_287 (by decide) ?_
             refine pm_iconst (v := 1) dX7_others_290 (by decide) ?_
             refine pm_iconst (v := 3) dX7_others_291 (by decide) ?_
             refine pm_vv (c_X7_set G l bs A E M225 2944 1 3 _ hm225 (by decide)) pm_y_X7_set pm_v_X7_set pm_m_X7_124 (c := 7) (r := (RX7, TX7, 41)) rfl rfl hm225.1 dX7_others_292 rfl rfl (by decide) (Nat.le_of_ble_eq_true rfl) (fun S292 h292 => ?_)
             obtain ⟨M292, hm292, mt292, sl292⟩ := h292
             have hr292 := hr225.T hn h9b mt292 (by decide)
             refine pm_aload_n dX7_others_295 rfl ?_
             refine pm_iload_n dX7_others_296 rfl ?_
             refine pm_aload_n dX7_others_297 rfl ?_
             refine pm_g_Model_made hm292.1 pm_f_X7_257 dX7_others_298 ?_
             rw [hm292.f (g := 381) (f := 31) rfl]
             refine pm_iload dX7_others_301 rfl ?_
             refine pm_sipush (v := 2944) dX7_others_303 (by decide) ?_
             rw [mt292.2, mk]
             refine pm_vv (c_X7_tellsDown G l bs A E M292 b (zs_t (zs_a Z 8 (az_a Z 8 + 1)) 0 p ja [0, nI (az_a Z 8 + 1)]) s p (zPid (az_t Z 0 p jb)) 2944 (nI (az_a Z 8 + 1)) [1, 3] _ hm292 hr292 hI225 hp (by decide) (by decide) sl292 (tW.atom (by decide) (by decide))) pm_y_X7_tellsDown pm_v_X7_tellsDown pm_m_X7_168 (c := 7) (r := (RX7, TX7, 41)) rfl rfl hm292.1 dX7_others_306 rfl rfl (by decide) (Nat.le_of_ble_eq_true rfl) (fun S306 h306 => ?_)
             obtain ⟨M306, hm306, hr306⟩ := h306
             refine pm_goto (tgt := 550) dX7_others_309 (by decide) ?_
             subst hQ9
             refine pm_vret dX7_others_550 ?_
             first
             | (rw [if_pos k2] at hW; subst hW; exact ⟨M168, hm168, hr168⟩)
             | (rw [if_neg (fun z => z k2), if_pos g2] at hW; subst hW; exact ⟨M201, hm201, hr201⟩)
             | (rw [if_neg (fun z => z k2), if_neg g2, zWt_d g2 gd] at hW; subst hW; exact ⟨M306, hm306, hr306⟩)
             | (rw [if_neg (fun z => z k2), if_neg g2, zWt_a g2 gd] at hW
                subst hW
                refine ⟨_, hm280, hr225.wl ⟨fun s j a1 a2 a3 => by rw [mi_1, mx_o a3, mx_o a2, mx_o a1], fun f hf => by rw [mi_2, if_neg hf]; rfl⟩ ⟨by rw [mi_2, if_pos rfl, List.length_append]; rfl, fun i t hi => ?_⟩⟩
                rw [mi_1, mi_1, mi_1, mx_o (s' := 27) (by decide), mx_o (s' := 27) (by decide), mx_o (s' := 28) (by decide)]
                by_cases e : i = (az_w Z).length
                · rw [e, List.getElem?_append_right (Nat.le_refl _), Nat.sub_self] at hi
                  obtain rfl := Option.some.inj hi
                  rw [e, mx_s, mx_s, mx_s]
                  exact ⟨rfl, rfl, rfl⟩
                · repeat rw [mx_k e]
                  have hlt : i < (az_w Z).length := by have q := (List.getElem?_eq_some_iff.mp hi).1; rw [List.length_append, List.length_cons, List.length_nil] at q; omega
                  rw [List.getElem?_append_left hlt] at hi
                  exact hv225.2 i t hi)
           · skip
             have gd : ¬ az_b Z 1 (zPid (az_t Z 0 p jb)) = 2 := fun z => h236 ((pm_e2 (hsm _ hqn 1 (by decide))).mpr z)
             refine pm_aload_n dX7_others_239 rfl ?_
             refine pm_g_Model_watchers hm225.1 pm_f_X7_87 (hm225.2.1 27 (by decide)).1 dX7_others_240 ?_
             refine pm_aload_n dX7_others_243 rfl ?_
             refine pm_g_Model_watchCount hm225.1 pm_f_X7_151 dX7_others_244 ?_
             rw [hm225.f (g := 380) (f := 30) rfl]
             refine pm_iload_n dX7_others_247 rfl ?_
             refine mm_iastore (n := (az_w Z).length) hm225 (by decide) ml (by show _ < 200; omega) dX7_others_248 (fun S248 hm248 => ?_)
             refine pm_aload_n dX7_others_249 rfl ?_
             refine pm_g_Model_watched hm248.1 pm_f_X7_90 (hm248.2.1 28 (by decide)).1 dX7_others_250 ?_
             refine pm_aload_n dX7_others_253 rfl ?_
             refine pm_g_Model_watchCount hm248.1 pm_f_X7_151 dX7_others_254 ?_
             rw [hm248.f (g := 380) (f := 30) rfl]
             refine pm_iload dX7_others_257 rfl ?_
             rw [mx_2]
             refine mm_iastore (n := (az_w Z).length) hm248 (by decide) ml (by show _ < 200; omega) dX7_others_259 (fun S259 hm259 => ?_)
             refine pm_aload_n dX7_others_260 rfl ?_
             refine pm_g_Model_numbers hm259.1 pm_f_X7_93 (hm259.2.1 29 (by decide)).1 dX7_others_261 ?_
             refine pm_aload_n dX7_others_264 rfl ?_
             refine pm_g_Model_watchCount hm259.1 pm_f_X7_151 dX7_others_265 ?_
             rw [hm259.f (g := 380) (f := 30) rfl]
             refine pm_aload_n dX7_others_268 rfl ?_
             refine pm_g_Model_made hm259.1 pm_f_X7_257 dX7_others_269 ?_
             rw [hm259.f (g := 381) (f := 31) rfl]
             rw [mx_2, mx_2, mx_2, mx_2, mk]
             refine mm_iastore (n := (az_w Z).length) hm259 (by decide) ml (by show _ < 200; omega) dX7_others_272 (fun S272 hm272 => ?_)
             refine pm_aload_n dX7_others_273 rfl ?_
             refine pm_dup dX7_others_274 ?_
             refine pm_g_Model_watchCount hm272.1 pm_f_X7_151 dX7_others_275 ?_
             rw [hm272.f (g := 380) (f := 30) rfl]
             refine pm_iconst (v := 1) dX7_others_278 (by decide) ?_
             refine pm_iadd dX7_others_279 ?_
             rw [mx_2, mx_2, mx_2, ml, nI_1]
             refine pm_p_Model_watchCount hm272.1 pm_f_X7_151 dX7_others_280 ?_
             refine mm_gen (hm272.si (g := 380) (f := 30) rfl) (fun S280 hm280 => ?_)
             refine pm_goto (tgt := 550) dX7_others_283 (by decide) ?_
             subst hQ9
             refine pm_vret dX7_others_550 ?_
             first
             | (rw [if_pos k2] at hW; subst hW; exact ⟨M168, hm168, hr168⟩)
             | (rw [if_neg (fun z => z k2), if_pos g2] at hW; subst hW; exact ⟨M201, hm201, hr201⟩)
             | (rw [if_neg (fun z => z k2), if_neg g2, zWt_d g2 gd] at hW; subst hW; exact ⟨M306, hm306, hr306⟩)
             | (rw [if_neg (fun z => z k2), if_neg g2, zWt_a g2 gd] at hW
                subst hW
                refine ⟨_, hm280, hr225.wl ⟨fun s j a1 a2 a3 => by rw [mi_1, mx_o a3, mx_o a2, mx_o a1], fun f hf => by rw [mi_2, if_neg hf]; rfl⟩ ⟨by rw [mi_2, if_pos rfl, List.length_append]; rfl, fun i t hi => ?_⟩⟩
                rw [mi_1, mi_1, mi_1, mx_o (s' := 27) (by decide), mx_o (s' := 27) (by decide), mx_o (s' := 28) (by decide)]
                by_cases e : i = (az_w Z).length
                · rw [e, List.getElem?_append_right (Nat.le_refl _), Nat.sub_self] at hi
                  obtain rfl := Option.some.inj hi
                  rw [e, mx_s, mx_s, mx_s]
                  exact ⟨rfl, rfl, rfl⟩
                · repeat rw [mx_k e]
                  have hlt : i < (az_w Z).length := by have q := (List.getElem?_eq_some_iff.mp hi).1; rw [List.length_append, List.length_cons, List.length_nil] at q; omega
                  rw [List.getElem?_append_left hlt] at hi
                  exact hv225.2 i t hi)
         · skip
           have g2 : 200 ≤ (az_w Z).length := by have q : (az_w Z).length = 200 := (nI_eq (b := 200) (by omega) (by decide)).mp h194; omega
           refine pm_aload_n dX7_others_197 rfl ?_
           refine pm_iload_n dX7_others_198 rfl ?_
           refine pm_iconst (v := 1) dX7_others_199 (by decide) ?_
           refine pm_iconst (v := 5) dX7_others_200 (by decide) ?_
           refine pm_vv (c_X7_failsWith G l bs A E M b Z s p 1 5 _ hm hr hI hp h02) pm_y_X7_failsWith pm_v_X7_failsWith pm_m_X7_193 (c := 7) (r := (RX7, TX7, 41)) rfl rfl hm.1 dX7_others_201 rfl rfl (by decide) (Nat.le_of_ble_eq_true rfl) (fun S201 h201 => ?_)
           obtain ⟨M201, hm201, hr201⟩ := h201
           refine pm_goto (tgt := 550) dX7_others_204 (by decide) ?_
           subst hQ9
           refine pm_vret dX7_others_550 ?_
           first
           | (rw [if_pos k2] at hW; subst hW; exact ⟨M168, hm168, hr168⟩)
           | (rw [if_neg (fun z => z k2), if_pos g2] at hW; subst hW; exact ⟨M201, hm201, hr201⟩)
           | (rw [if_neg (fun z => z k2), if_neg g2, zWt_d g2 gd] at hW; subst hW; exact ⟨M306, hm306, hr306⟩)
           | (rw [if_neg (fun z => z k2), if_neg g2, zWt_a g2 gd] at hW
              subst hW
              refine ⟨_, hm280, hr225.wl ⟨fun s j a1 a2 a3 => by rw [mi_1, mx_o a3, mx_o a2, mx_o a1], fun f hf => by rw [mi_2, if_neg hf]; rfl⟩ ⟨by rw [mi_2, if_pos rfl, List.length_append]; rfl, fun i t hi => ?_⟩⟩
              rw [mi_1, mi_1, mi_1, mx_o (s' := 27) (by decide), mx_o (s' := 27) (by decide), mx_o (s' := 28) (by decide)]
              by_cases e : i = (az_w Z).length
              · rw [e, List.getElem?_append_right (Nat.le_refl _), Nat.sub_self] at hi
                obtain rfl := Option.some.inj hi
                rw [e, mx_s, mx_s, mx_s]
                exact ⟨rfl, rfl, rfl⟩
              · repeat rw [mx_k e]
                have hlt : i < (az_w Z).length := by have q := (List.getElem?_eq_some_iff.mp hi).1; rw [List.length_append, List.length_cons, List.length_nil] at q; omega
                rw [List.getElem?_append_left hlt] at hi
                exact hv225.2 i t hi))
    · first
      | exact absurd rfl h171
      | (skip
         rcases h168b with ⟨g0, -⟩ | ⟨-, M168, hm168, hr168⟩
         case inl => exact absurd g0 (by decide)
         refine pm_goto (tgt := 550) dX7_others_174 (by decide) ?_
         subst hQ9
         refine pm_vret dX7_others_550 ?_
         first
         | (rw [if_pos k2] at hW; subst hW; exact ⟨M168, hm168, hr168⟩)
         | (rw [if_neg (fun z => z k2), if_pos g2] at hW; subst hW; exact ⟨M201, hm201, hr201⟩)
         | (rw [if_neg (fun z => z k2), if_neg g2, zWt_d g2 gd] at hW; subst hW; exact ⟨M306, hm306, hr306⟩)
         | (rw [if_neg (fun z => z k2), if_neg g2, zWt_a g2 gd] at hW
            subst hW
            refine ⟨_, hm280, hr225.wl ⟨fun s j a1 a2 a3 => by rw [mi_1, mx_o a3, mx_o a2, mx_o a1], fun f hf => by rw [mi_2, if_neg hf]; rfl⟩ ⟨by rw [mi_2, if_pos rfl, List.length_append]; rfl, fun i t hi => ?_⟩⟩
            rw [mi_1, mi_1, mi_1, mx_o (s' := 27) (by decide), mx_o (s' := 27) (by decide), mx_o (s' := 28) (by decide)]
            by_cases e : i = (az_w Z).length
            · rw [e, List.getElem?_append_right (Nat.le_refl _), Nat.sub_self] at hi
              obtain rfl := Option.some.inj hi
              rw [e, mx_s, mx_s, mx_s]
              exact ⟨rfl, rfl, rfl⟩
            · repeat rw [mx_k e]
              have hlt : i < (az_w Z).length := by have q := (List.getElem?_eq_some_iff.mp hi).1; rw [List.length_append, List.length_cons, List.length_nil] at q; omega
              rw [List.getElem?_append_left hlt] at hi
              exact hv225.2 i t hi))

set_option maxHeartbeats 4000000 in
set_option maxRecDepth 100000 in
theorem m_32 (G : pm_G) (l : Launch) (bs : Nat) (A : Nat → Nat) (E : pm_S) (M : pm_N) (b : Nat) (Z : az) (s : Nat) (p ja jb jc : Nat) (a bb c : Int32) (vo v9 v10 v11 : Value) (W : az) (S : pm_S) (hm : pm_MX M S A E) (hr : mR b Z M) (hI : zI s Z) (hp : p < az_a Z 0) (h0 : az_b Z 1 p = 0) (hja : ja < 8) (hjb : jb < 8) (hjc : jc < 8) (hW : (if zKind (az_t Z 0 p ja) ≠ 2 then zBad Z p else zExw Z p (some (zPid (az_t Z 0 p ja))) (az_t Z 0 p jb)) = W) : pm_W G l bs yX7_others.cls cX7_others 8 false 5 0 0 (pm_xv (fun S2 => ∃ M2, pm_MX M2 S2 A E ∧ mR b W M2)) 312 [.ref (A 50), .int (nI p), vo, .int a, .int bb, .int (nI (8 * p + ja)), .int (nI (8 * p + jb)), v9] [] S := by
  have hn := hI.1
  have hsm := hI.sm
  have h9b := hI.b9
  have h02 : az_b Z 1 p ≠ 2 := by omega
  have hsa := hr.G hp hja
  have hsb := hr.G hp hjb
  have hsc := hr.G hp hjc
  have hwa := hI.rg hp hja
  have hwb := hI.rg hp hjb
  have hwc := hI.rg hp hjc
  have hla := hwa.len
  have hlb := hwb.len
  have hlc := hwc.len
  generalize hQ9 : pm_xv (fun S2 => ∃ M2, pm_MX M2 S2 A E ∧ mR b W M2) = Q9
  refine pm_aload_n dX7_others_312 rfl ?_
  refine pm_iload_n dX7_others_313 rfl ?_
  refine pm_aload_n dX7_others_314 rfl ?_
  refine pm_iload dX7_others_315 rfl ?_
  refine pm_iconst (v := 2) dX7_others_317 (by decide) ?_
  refine pm_vi (c_X7_is G l bs A E M (8 * p + ja) 2 _ hm (by omega)) pm_y_X7_is pm_v_X7_is pm_m_X7_178 (c := 7) (r := (RX7, TX7, 41)) rfl rfl hm.1 dX7_others_318 rfl rfl (by decide) (Nat.le_of_ble_eq_true rfl) (fun x318 S318 h318 => ?_)
  obtain ⟨rfl, rfl⟩ := h318
  refine pm_if_ne (tgt := 328) dX7_others_321 (by decide) (fun h321 => ?_) (fun h321 => ?_)
  · skip
    have k2 : zKind (az_t Z 0 p ja) = 2 := (slK hsa hwa).2.2.1.mp (Classical.byContradiction (fun z => h321 (if_neg z)))
    refine pm_iconst (v := 0) dX7_others_328 (by decide) ?_
    refine pm_vi (c_X7_bad G l bs A E M b Z s p _ _ hm hr hI hp h02 (by first | exact Or.inl rfl | exact Or.inr rfl)) pm_y_X7_bad pm_v_X7_bad pm_m_X7_202 (c := 7) (r := (RX7, TX7, 41)) rfl rfl hm.1 dX7_others_329 rfl rfl (by decide) (Nat.le_of_ble_eq_true rfl) (fun x329 S329 h329 => ?_)
    obtain ⟨rfl, h329b⟩ := h329
    refine pm_if_eq (tgt := 338) dX7_others_332 (by decide) (fun h332 => ?_) (fun h332 => ?_)
    · first
      | exact absurd h332 (by decide)
      | (skip
         rcases h329b with ⟨-, rfl⟩ | ⟨g0, -⟩
         case inr => exact absurd rfl g0
         refine pm_aload_n dX7_others_338 rfl ?_
         refine pm_sipush (v := 2944) dX7_others_339 (by decide) ?_
         refine pm_iload dX7_others_342 rfl ?_
         refine pm_vv (c_X7_copy G l bs A E M 2944 (8 * p + jb) (az_t Z 0 p jb) _ hm (by omega) (by omega) hsb) pm_y_X7_copy pm_v_X7_copy pm_m_X7_136 (c := 7) (r := (RX7, TX7, 41)) rfl rfl hm.1 dX7_others_344 rfl rfl (by decide) (Nat.le_of_ble_eq_true rfl) (fun S344 h344 => ?_)
         obtain ⟨M344, hm344, mt344, sl344⟩ := h344
         refine pm_aload_n dX7_others_347 rfl ?_
         refine pm_aload_n dX7_others_348 rfl ?_
         refine pm_iload dX7_others_349 rfl ?_
         have hr344 := hr.T hn h9b mt344 (by decide)
         refine pm_vi (c_X7_valueOf G l bs A E M344 (8 * p + ja) _ hm344 (by omega)) pm_y_X7_valueOf pm_v_X7_valueOf pm_m_X7_181 (c := 7) (r := (RX7, TX7, 41)) rfl rfl hm344.1 dX7_others_351 rfl rfl (by decide) (Nat.le_of_ble_eq_true rfl) (fun x351 S351 h351 => ?_)
         obtain ⟨rfl, rfl⟩ := h351
         rw [slV (mt344.sl (by omega) hsa) hwa, (hwa.pid_of k2).2.2.2.2 (by omega)]
         have hqn := (hwa.pid_of k2).1
         refine pm_iconst (v := 1) dX7_others_354 (by decide) ?_
         refine pm_isub dX7_others_355 ?_
         rw [nI_pred]
         refine pm_iload_n dX7_others_356 rfl ?_
         refine pm_sipush (v := 2944) dX7_others_357 (by decide) ?_
         refine pm_iconst (v := 1) dX7_others_360 (by decide) ?_
         refine pm_vv (c_X7_exit G l bs A E M344 b Z s (zPid (az_t Z 0 p ja)) p 2944 (az_t Z 0 p jb) 1 true _ hm344 hr344 hI hqn hp (by decide) (by decide) sl344 hwb rfl) pm_y_X7_exit pm_v_X7_exit pm_m_X7_164 (c := 7) (r := (RX7, TX7, 41)) rfl rfl hm344.1 dX7_others_361 rfl rfl (by decide) (Nat.le_of_ble_eq_true rfl) (fun S361 h361 => ?_)
         obtain ⟨M361, hm361, hr361⟩ := h361
         refine pm_goto (tgt := 550) dX7_others_364 (by decide) ?_
         subst hQ9
         refine pm_vret dX7_others_550 ?_
         first
         | (rw [if_pos k2] at hW; subst hW; exact ⟨M329, hm329, hr329⟩)
         | (rw [if_neg (fun z => z k2)] at hW; subst hW; exact ⟨M361, hm361, hr361⟩))
    · first
      | exact absurd rfl h332
      | (skip
         rcases h329b with ⟨g0, -⟩ | ⟨-, M329, hm329, hr329⟩
         case inl => exact absurd g0 (by decide)
         refine pm_goto (tgt := 550) dX7_others_335 (by decide) ?_
         subst hQ9
         refine pm_vret dX7_others_550 ?_
         first
         | (rw [if_pos k2] at hW; subst hW; exact ⟨M329, hm329, hr329⟩)
         | (rw [if_neg (fun z => z k2)] at hW; subst hW; exact ⟨M361, hm361, hr361⟩))
  · skip
    have k2 : ¬ zKind (az_t Z 0 p ja) = 2 := fun z => by rw [if_pos ((slK hsa hwa).2.2.1.mpr z)] at h321; cases h321
    refine pm_iconst (v := 1) dX7_others_324 (by decide) ?_
    refine pm_goto (tgt := 329) dX7_others_325 (by decide) ?_
    refine pm_vi (c_X7_bad G l bs A E M b Z s p _ _ hm hr hI hp h02 (by first | exact Or.inl rfl | exact Or.inr rfl)) pm_y_X7_bad pm_v_X7_bad pm_m_X7_202 (c := 7) (r := (RX7, TX7, 41)) rfl rfl hm.1 dX7_others_329 rfl rfl (by decide) (Nat.le_of_ble_eq_true rfl) (fun x329 S329 h329 => ?_)
    obtain ⟨rfl, h329b⟩ := h329
    refine pm_if_eq (tgt := 338) dX7_others_332 (by decide) (fun h332 => ?_) (fun h332 => ?_)
    · first
      | exact absurd h332 (by decide)
      | (skip
         rcases h329b with ⟨-, rfl⟩ | ⟨g0, -⟩
         case inr => exact absurd rfl g0
         refine pm_aload_n dX7_others_338 rfl ?_
         refine pm_sipush (v := 2944) dX7_others_339 (by decide) ?_
         refine pm_iload dX7_others_342 rfl ?_
         refine pm_vv (c_X7_copy G l bs A E M 2944 (8 * p + jb) (az_t Z 0 p jb) _ hm (by omega) (by omega) hsb) pm_y_X7_copy pm_v_X7_copy pm_m_X7_136 (c := 7) (r := (RX7, TX7, 41)) rfl rfl hm.1 dX7_others_344 rfl rfl (by decide) (Nat.le_of_ble_eq_true rfl) (fun S344 h344 => ?_)
         obtain ⟨M344, hm344, mt344, sl344⟩ := h344
         refine pm_aload_n dX7_others_347 rfl ?_
         refine pm_aload_n dX7_others_348 rfl ?_
         refine pm_iload dX7_others_349 rfl ?_
         have hr344 := hr.T hn h9b mt344 (by decide)
         refine pm_vi (c_X7_valueOf G l bs A E M344 (8 * p + ja) _ hm344 (by omega)) pm_y_X7_valueOf pm_v_X7_valueOf pm_m_X7_181 (c := 7) (r := (RX7, TX7, 41)) rfl rfl hm344.1 dX7_others_351 rfl rfl (by decide) (Nat.le_of_ble_eq_true rfl) (fun x351 S351 h351 => ?_)
         obtain ⟨rfl, rfl⟩ := h351
         rw [slV (mt344.sl (by omega) hsa) hwa, (hwa.pid_of k2).2.2.2.2 (by omega)]
         have hqn := (hwa.pid_of k2).1
         refine pm_iconst (v := 1) dX7_others_354 (by decide) ?_
         refine pm_isub dX7_others_355 ?_
         rw [nI_pred]
         refine pm_iload_n dX7_others_356 rfl ?_
         refine pm_sipush (v := 2944) dX7_others_357 (by decide) ?_
         refine pm_iconst (v := 1) dX7_others_360 (by decide) ?_
         refine pm_vv (c_X7_exit G l bs A E M344 b Z s (zPid (az_t Z 0 p ja)) p 2944 (az_t Z 0 p jb) 1 true _ hm344 hr344 hI hqn hp (by decide) (by decide) sl344 hwb rfl) pm_y_X7_exit pm_v_X7_exit pm_m_X7_164 (c := 7) (r := (RX7, TX7, 41)) rfl rfl hm344.1 dX7_others_361 rfl rfl (by decide) (Nat.le_of_ble_eq_true rfl) (fun S361 h361 => ?_)
         obtain ⟨M361, hm361, hr361⟩ := h361
         refine pm_goto (tgt := 550) dX7_others_364 (by decide) ?_
         subst hQ9
         refine pm_vret dX7_others_550 ?_
         first
         | (rw [if_pos k2] at hW; subst hW; exact ⟨M329, hm329, hr329⟩)
         | (rw [if_neg (fun z => z k2)] at hW; subst hW; exact ⟨M361, hm361, hr361⟩))
    · first
      | exact absurd rfl h332
      | (skip
         rcases h329b with ⟨g0, -⟩ | ⟨-, M329, hm329, hr329⟩
         case inl => exact absurd g0 (by decide)
         refine pm_goto (tgt := 550) dX7_others_335 (by decide) ?_
         subst hQ9
         refine pm_vret dX7_others_550 ?_
         first
         | (rw [if_pos k2] at hW; subst hW; exact ⟨M329, hm329, hr329⟩)
         | (rw [if_neg (fun z => z k2)] at hW; subst hW; exact ⟨M361, hm361, hr361⟩))

set_option maxHeartbeats 4000000 in
set_option maxRecDepth 100000 in
theorem m_33 (G : pm_G) (l : Launch) (bs : Nat) (A : Nat → Nat) (E : pm_S) (M : pm_N) (b : Nat) (Z : az) (s : Nat) (p ja jb jc : Nat) (a bb c : Int32) (vo v9 v10 v11 : Value) (W : az) (S : pm_S) (hm : pm_MX M S A E) (hr : mR b Z M) (hI : zI s Z) (hp : p < az_a Z 0) (h0 : az_b Z 1 p = 0) (hja : ja < 8) (hjb : jb < 8) (hjc : jc < 8) (hW : zs_b Z 11 p (if a = 0 then 0 else 1) = W) : pm_W G l bs yX7_others.cls cX7_others 8 false 5 0 0 (pm_xv (fun S2 => ∃ M2, pm_MX M2 S2 A E ∧ mR b W M2)) 367 [.ref (A 50), .int (nI p), vo, .int a, .int bb, .int (nI (8 * p + ja)), .int (nI (8 * p + jb)), v9] [] S := by
  have hn := hI.1
  have hsm := hI.sm
  have h9b := hI.b9
  have h02 : az_b Z 1 p ≠ 2 := by omega
  have hsa := hr.G hp hja
  have hsb := hr.G hp hjb
  have hsc := hr.G hp hjc
  have hwa := hI.rg hp hja
  have hwb := hI.rg hp hjb
  have hwc := hI.rg hp hjc
  have hla := hwa.len
  have hlb := hwb.len
  have hlc := hwc.len
  generalize hQ9 : pm_xv (fun S2 => ∃ M2, pm_MX M2 S2 A E ∧ mR b W M2) = Q9
  refine pm_aload_n dX7_others_367 rfl ?_
  refine pm_g_Model_traps hm.1 pm_f_X7_41 (hm.2.1 10 (by decide)).1 dX7_others_368 ?_
  refine pm_iload_n dX7_others_371 rfl ?_
  refine pm_iload_n dX7_others_372 rfl ?_
  refine pm_if_eq (tgt := 380) dX7_others_373 (by decide) (fun h373 => ?_) (fun h373 => ?_)
  · skip
    rw [if_pos h373] at hW
    refine pm_iconst (v := 0) dX7_others_380 (by decide) ?_
    refine mm_bastore (n := _) hm (by decide) rfl (by show _ < 60; omega) (by first | exact Or.inl rfl | exact Or.inr rfl) dX7_others_381 (fun S381 hm381 => ?_)
    refine pm_goto (tgt := 550) dX7_others_382 (by decide) ?_
    subst hQ9
    refine pm_vret dX7_others_550 ?_
    subst hW
    exact ⟨_, hm381, hr.b0 (s := 10) (i := 11) hp rfl (by decide)⟩
  · skip
    rw [if_neg h373] at hW
    refine pm_iconst (v := 1) dX7_others_376 (by decide) ?_
    refine pm_goto (tgt := 381) dX7_others_377 (by decide) ?_
    refine mm_bastore (n := _) hm (by decide) rfl (by show _ < 60; omega) (by first | exact Or.inl rfl | exact Or.inr rfl) dX7_others_381 (fun S381 hm381 => ?_)
    refine pm_goto (tgt := 550) dX7_others_382 (by decide) ?_
    subst hQ9
    refine pm_vret dX7_others_550 ?_
    subst hW
    exact ⟨_, hm381, hr.b0 (s := 10) (i := 11) hp rfl (by decide)⟩

set_option maxHeartbeats 4000000 in
set_option maxRecDepth 100000 in
theorem m_34 (G : pm_G) (l : Launch) (bs : Nat) (A : Nat → Nat) (E : pm_S) (M : pm_N) (b : Nat) (Z : az) (s : Nat) (p ja jb jc : Nat) (a bb c : Int32) (vo v9 v10 v11 : Value) (W : az) (S : pm_S) (hm : pm_MX M S A E) (hr : mR b Z M) (hI : zI s Z) (hp : p < az_a Z 0) (h0 : az_b Z 1 p = 0) (hja : ja < 8) (hjb : jb < 8) (hjc : jc < 8) (hW : (if az_e Z 0 p = none ∧ az_e Z 2 (pm_mod a 100) = none then zs_e (zs_e Z 0 p (some (pm_mod a 100))) 2 (pm_mod a 100) (some p) else zBad Z p) = W) : pm_W G l bs yX7_others.cls cX7_others 8 false 5 0 0 (pm_xv (fun S2 => ∃ M2, pm_MX M2 S2 A E ∧ mR b W M2)) 385 [.ref (A 50), .int (nI p), vo, .int a, .int bb, .int (nI (8 * p + ja)), .int (nI (8 * p + jb)), v9] [] S := by
  have hn := hI.1
  have hsm := hI.sm
  have h9b := hI.b9
  have h02 : az_b Z 1 p ≠ 2 := by omega
  have hsa := hr.G hp hja
  have hsb := hr.G hp hjb
  have hsc := hr.G hp hjc
  have hwa := hI.rg hp hja
  have hwb := hI.rg hp hjb
  have hwc := hI.rg hp hjc
  have hla := hwa.len
  have hlb := hwb.len
  have hlc := hwc.len
  generalize hQ9 : pm_xv (fun S2 => ∃ M2, pm_MX M2 S2 A E ∧ mR b W M2) = Q9
  refine pm_iload_n dX7_others_385 rfl ?_
  refine pm_bipush (v := 100) dX7_others_386 (by decide) ?_
  refine pm_ssi (c_X7_mod G l bs a 100 _ (by decide) (by decide)) pm_y_X7_mod pm_s_X7_mod pm_m_X7_199 dX7_others_388 rfl rfl (by decide) (Nat.le_of_ble_eq_true rfl) (fun x388 S388 h388 => ?_)
  obtain ⟨rfl, rfl⟩ := h388
  refine pm_istore dX7_others_391 (by decide) ?_
  dsimp only [List.set]
  refine pm_aload_n dX7_others_393 rfl ?_
  refine pm_iload_n dX7_others_394 rfl ?_
  refine pm_aload_n dX7_others_395 rfl ?_
  refine pm_g_Model_name hm.1 pm_f_X7_38 (hm.2.1 9 (by decide)).1 dX7_others_396 ?_
  refine pm_iload_n dX7_others_399 rfl ?_
  refine mm_iaload (n := _) hm (by decide) rfl (by show _ < 60; omega) dX7_others_400 ?_
  refine pm_iconst (v := (-1)) dX7_others_401 (by decide) ?_
  rw [hr.2.2.2.1 p hp]
  refine pm_icmp_ne (tgt := 415) dX7_others_402 (by decide) (fun h402 => ?_) (fun h402 => ?_)
  · skip
    have k3 : ¬ (az_e Z 0 p = none ∧ az_e Z 2 (pm_mod a 100) = none) := fun z => h402 (by rw [z.1]; rfl)
    refine pm_iconst (v := 1) dX7_others_415 (by decide) ?_
    refine pm_goto (tgt := 420) dX7_others_416 (by decide) ?_
    refine pm_vi (c_X7_bad G l bs A E M b Z s p _ _ hm hr hI hp h02 (by first | exact Or.inl rfl | exact Or.inr rfl)) pm_y_X7_bad pm_v_X7_bad pm_m_X7_202 (c := 7) (r := (RX7, TX7, 41)) rfl rfl hm.1 dX7_others_420 rfl rfl (by decide) (Nat.le_of_ble_eq_true rfl) (fun x420 S420 h420 => ?_)
    obtain ⟨rfl, h420b⟩ := h420
    refine pm_if_eq (tgt := 429) dX7_others_423 (by decide) (fun h423 => ?_) (fun h423 => ?_)
    · first
      | exact absurd h423 (by decide)
      | (skip
         rcases h420b with ⟨-, rfl⟩ | ⟨g0, -⟩
         case inr => exact absurd rfl g0
         refine pm_aload_n dX7_others_429 rfl ?_
         refine pm_g_Model_name hm.1 pm_f_X7_38 (hm.2.1 9 (by decide)).1 dX7_others_430 ?_
         refine pm_iload_n dX7_others_433 rfl ?_
         refine pm_iload dX7_others_434 rfl ?_
         refine mm_iastore (n := _) hm (by decide) rfl (by show _ < 60; omega) dX7_others_436 (fun S436 hm436 => ?_)
         refine pm_goto (tgt := 550) dX7_others_437 (by decide) ?_
         subst hQ9
         refine pm_vret dX7_others_550 ?_
         first
         | (rw [if_neg k3] at hW; subst hW; exact ⟨M420, hm420, hr420⟩)
         | (rw [if_pos k3] at hW; subst hW; exact ⟨_, hm436, (hr.nm (r := some (pm_mod a 100)) hp).e2⟩))
    · first
      | exact absurd rfl h423
      | (skip
         rcases h420b with ⟨g0, -⟩ | ⟨-, M420, hm420, hr420⟩
         case inl => exact absurd g0 (by decide)
         refine pm_goto (tgt := 550) dX7_others_426 (by decide) ?_
         subst hQ9
         refine pm_vret dX7_others_550 ?_
         first
         | (rw [if_neg k3] at hW; subst hW; exact ⟨M420, hm420, hr420⟩)
         | (rw [if_pos k3] at hW; subst hW; exact ⟨_, hm436, (hr.nm (r := some (pm_mod a 100)) hp).e2⟩))
  · skip
    have k1 : az_e Z 0 p = none := (zNm_none (hI.nm hp)).mp h402
    refine pm_aload_n dX7_others_405 rfl ?_
    refine pm_iload dX7_others_406 rfl ?_
    refine pm_vi (c_X7_withName G l bs A E M b Z s (pm_mod a 100) _ hm hr hI (pm_mod_lt a (by decide))) pm_y_X7_withName pm_v_X7_withName pm_m_X7_245 (c := 7) (r := (RX7, TX7, 41)) rfl rfl hm.1 dX7_others_408 rfl rfl (by decide) (Nat.le_of_ble_eq_true rfl) (fun x408 S408 h408 => ?_)
    obtain ⟨rfl, rfl⟩ := h408
    refine pm_iconst (v := (-1)) dX7_others_411 (by decide) ?_
    refine pm_icmp_eq (tgt := 419) dX7_others_412 (by decide) (fun h412 => ?_) (fun h412 => ?_)
    · skip
      have k3 : az_e Z 0 p = none ∧ az_e Z 2 (pm_mod a 100) = none := ⟨k1, (zNm_none (fun q e => by have := (hI.2.2.2.2.2.1.2 _ q e).2.1; omega)).mp h412⟩
      refine pm_iconst (v := 0) dX7_others_419 (by decide) ?_
      refine pm_vi (c_X7_bad G l bs A E M b Z s p _ _ hm hr hI hp h02 (by first | exact Or.inl rfl | exact Or.inr rfl)) pm_y_X7_bad pm_v_X7_bad pm_m_X7_202 (c := 7) (r := (RX7, TX7, 41)) rfl rfl hm.1 dX7_others_420 rfl rfl (by decide) (Nat.le_of_ble_eq_true rfl) (fun x420 S420 h420 => ?_)
      obtain ⟨rfl, h420b⟩ := h420
      refine pm_if_eq (tgt := 429) dX7_others_423 (by decide) (fun h423 => ?_) (fun h423 => ?_)
      · first
        | exact absurd h423 (by decide)
        | (skip
           rcases h420b with ⟨-, rfl⟩ | ⟨g0, -⟩
           case inr => exact absurd rfl g0
           refine pm_aload_n dX7_others_429 rfl ?_
           refine pm_g_Model_name hm.1 pm_f_X7_38 (hm.2.1 9 (by decide)).1 dX7_others_430 ?_
           refine pm_iload_n dX7_others_433 rfl ?_
           refine pm_iload dX7_others_434 rfl ?_
           refine mm_iastore (n := _) hm (by decide) rfl (by show _ < 60; omega) dX7_others_436 (fun S436 hm436 => ?_)
           refine pm_goto (tgt := 550) dX7_others_437 (by decide) ?_
           subst hQ9
           refine pm_vret dX7_others_550 ?_
           first
           | (rw [if_neg k3] at hW; subst hW; exact ⟨M420, hm420, hr420⟩)
           | (rw [if_pos k3] at hW; subst hW; exact ⟨_, hm436, (hr.nm (r := some (pm_mod a 100)) hp).e2⟩))
      · first
        | exact absurd rfl h423
        | (skip
           rcases h420b with ⟨g0, -⟩ | ⟨-, M420, hm420, hr420⟩
           case inl => exact absurd g0 (by decide)
           refine pm_goto (tgt := 550) dX7_others_426 (by decide) ?_
           subst hQ9
           refine pm_vret dX7_others_550 ?_
           first
           | (rw [if_neg k3] at hW; subst hW; exact ⟨M420, hm420, hr420⟩)
           | (rw [if_pos k3] at hW; subst hW; exact ⟨_, hm436, (hr.nm (r := some (pm_mod a 100)) hp).e2⟩))
    · skip
      have k3 : ¬ (az_e Z 0 p = none ∧ az_e Z 2 (pm_mod a 100) = none) := fun z => h412 (by rw [z.2]; rfl)
      refine pm_iconst (v := 1) dX7_others_415 (by decide) ?_
      refine pm_goto (tgt := 420) dX7_others_416 (by decide) ?_
      refine pm_vi (c_X7_bad G l bs A E M b Z s p _ _ hm hr hI hp h02 (by first | exact Or.inl rfl | exact Or.inr rfl)) pm_y_X7_bad pm_v_X7_bad pm_m_X7_202 (c := 7) (r := (RX7, TX7, 41)) rfl rfl hm.1 dX7_others_420 rfl rfl (by decide) (Nat.le_of_ble_eq_true rfl) (fun x420 S420 h420 => ?_)
      obtain ⟨rfl, h420b⟩ := h420
      refine pm_if_eq (tgt := 429) dX7_others_423 (by decide) (fun h423 => ?_) (fun h423 => ?_)
      · first
        | exact absurd h423 (by decide)
        | (skip
           rcases h420b with ⟨-, rfl⟩ | ⟨g0, -⟩
           case inr => exact absurd rfl g0
           refine pm_aload_n dX7_others_429 rfl ?_
           refine pm_g_Model_name hm.1 pm_f_X7_38 (hm.2.1 9 (by decide)).1 dX7_others_430 ?_
           refine pm_iload_n dX7_others_433 rfl ?_
           refine pm_iload dX7_others_434 rfl ?_
           refine mm_iastore (n := _) hm (by decide) rfl (by show _ < 60; omega) dX7_others_436 (fun S436 hm436 => ?_)
           refine pm_goto (tgt := 550) dX7_others_437 (by decide) ?_
           subst hQ9
           refine pm_vret dX7_others_550 ?_
           first
           | (rw [if_neg k3] at hW; subst hW; exact ⟨M420, hm420, hr420⟩)
           | (rw [if_pos k3] at hW; subst hW; exact ⟨_, hm436, (hr.nm (r := some (pm_mod a 100)) hp).e2⟩))
      · first
        | exact absurd rfl h423
        | (skip
           rcases h420b with ⟨g0, -⟩ | ⟨-, M420, hm420, hr420⟩
           case inl => exact absurd g0 (by decide)
           refine pm_goto (tgt := 550) dX7_others_426 (by decide) ?_
           subst hQ9
           refine pm_vret dX7_others_550 ?_
           first
           | (rw [if_neg k3] at hW; subst hW; exact ⟨M420, hm420, hr420⟩)
           | (rw [if_pos k3] at hW; subst hW; exact ⟨_, hm436, (hr.nm (r := some (pm_mod a 100)) hp).e2⟩))

set_option maxHeartbeats 4000000 in
set_option maxRecDepth 100000 in
theorem m_35 (G : pm_G) (l : Launch) (bs : Nat) (A : Nat → Nat) (E : pm_S) (M : pm_N) (b : Nat) (Z : az) (s : Nat) (p ja jb jc : Nat) (a bb c : Int32) (vo v9 v10 v11 : Value) (W : az) (S : pm_S) (hm : pm_MX M S A E) (hr : mR b Z M) (hI : zI s Z) (hp : p < az_a Z 0) (h0 : az_b Z 1 p = 0) (hja : ja < 8) (hjb : jb < 8) (hjc : jc < 8) (hW : zs_t Z 0 p ja (zLk (az_e Z 2 (pm_mod bb 100))) = W) : pm_W G l bs yX7_others.cls cX7_others 8 false 5 0 0 (pm_xv (fun S2 => ∃ M2, pm_MX M2 S2 A E ∧ mR b W M2)) 440 [.ref (A 50), .int (nI p), vo, .int a, .int bb, .int (nI (8 * p + ja)), .int (nI (8 * p + jb)), v9] [] S := by
  have hn := hI.1
  have hsm := hI.sm
  have h9b := hI.b9
  have h02 : az_b Z 1 p ≠ 2 := by omega
  have hsa := hr.G hp hja
  have hsb := hr.G hp hjb
  have hsc := hr.G hp hjc
  have hwa := hI.rg hp hja
  have hwb := hI.rg hp hjb
  have hwc := hI.rg hp hjc
  have hla := hwa.len
  have hlb := hwb.len
  have hlc := hwc.len
  generalize hQ9 : pm_xv (fun S2 => ∃ M2, pm_MX M2 S2 A E ∧ mR b W M2) = Q9
  refine pm_aload_n dX7_others_440 rfl ?_
  refine pm_iload dX7_others_441 rfl ?_
  refine pm_bipush (v := 100) dX7_others_443 (by decide) ?_
  refine pm_ssi (c_X7_mod G l bs bb 100 _ (by decide) (by decide)) pm_y_X7_mod pm_s_X7_mod pm_m_X7_199 dX7_others_445 rfl rfl (by decide) (Nat.le_of_ble_eq_true rfl) (fun x445 S445 h445 => ?_)
  obtain ⟨rfl, rfl⟩ := h445
  refine pm_vi (c_X7_withName G l bs A E M b Z s (pm_mod bb 100) _ hm hr hI (pm_mod_lt bb (by decide))) pm_y_X7_withName pm_v_X7_withName pm_m_X7_245 (c := 7) (r := (RX7, TX7, 41)) rfl rfl hm.1 dX7_others_448 rfl rfl (by decide) (Nat.le_of_ble_eq_true rfl) (fun x448 S448 h448 => ?_)
  obtain ⟨rfl, rfl⟩ := h448
  have hzn : zNm (az_e Z 2 (pm_mod bb 100)) = -1 ↔ az_e Z 2 (pm_mod bb 100) = none := zNm_none (fun q e => by have := (hI.2.2.2.2.2.1.2 _ q e).2.1; omega)
  refine pm_istore dX7_others_451 (by decide) ?_
  dsimp only [List.set]
  refine pm_aload_n dX7_others_453 rfl ?_
  refine pm_iload dX7_others_454 rfl ?_
  refine pm_iload dX7_others_456 rfl ?_
  refine pm_iconst (v := (-1)) dX7_others_458 (by decide) ?_
  refine pm_icmp_ne (tgt := 466) dX7_others_459 (by decide) (fun h459 => ?_) (fun h459 => ?_)
  · skip
    obtain ⟨q9, hq9⟩ : ∃ q, az_e Z 2 (pm_mod bb 100) = some q := Option.ne_none_iff_exists'.mp (fun y => h459 (hzn.mpr y))
    rw [hq9, show zNm (some q9) = nI q9 from rfl]
    rw [hq9] at hW
    refine pm_iconst (v := 2) dX7_others_466 (by decide) ?_
    refine pm_iload dX7_others_467 rfl ?_
    refine pm_iconst (v := (-1)) dX7_others_469 (by decide) ?_
    refine pm_icmp_ne (tgt := 477) dX7_others_470 (by decide) (fun h470 => ?_) (fun h470 => ?_)
    · first
      | exact absurd rfl h470
      | (skip
         skip
         refine pm_iload dX7_others_477 rfl ?_
         refine pm_iconst (v := 1) dX7_others_479 (by decide) ?_
         refine pm_iadd dX7_others_480 ?_
         rw [nI_1]
         refine pm_vv (c_X7_set G l bs A E M (8 * p + ja) _ _ _ hm (by omega)) pm_y_X7_set pm_v_X7_set pm_m_X7_124 (c := 7) (r := (RX7, TX7, 41)) rfl rfl hm.1 dX7_others_481 rfl rfl (by decide) (Nat.le_of_ble_eq_true rfl) (fun S481 h481 => ?_)
         obtain ⟨M481, hm481, mt481, sl481⟩ := h481
         refine pm_goto (tgt := 550) dX7_others_484 (by decide) ?_
         subst hQ9
         refine pm_vret dX7_others_550 ?_
         subst hW
         exact ⟨M481, hm481, hr.reg hn h9b hp hja mt481 sl481⟩)
    · first
      | exact absurd h470 (nIm1 (by have := (hI.2.2.2.2.2.1.2 _ q9 hq9).2.1; omega))
      | (skip
         skip
         refine pm_iconst (v := 3) dX7_others_473 (by decide) ?_
         refine pm_goto (tgt := 481) dX7_others_474 (by decide) ?_
         refine pm_vv (c_X7_set G l bs A E M (8 * p + ja) _ _ _ hm (by omega)) pm_y_X7_set pm_v_X7_set pm_m_X7_124 (c := 7) (r := (RX7, TX7, 41)) rfl rfl hm.1 dX7_others_481 rfl rfl (by decide) (Nat.le_of_ble_eq_true rfl) (fun S481 h481 => ?_)
         obtain ⟨M481, hm481, mt481, sl481⟩ := h481
         refine pm_goto (tgt := 550) dX7_others_484 (by decide) ?_
         subst hQ9
         refine pm_vret dX7_others_550 ?_
         subst hW
         exact ⟨M481, hm481, hr.reg hn h9b hp hja mt481 sl481⟩)
  · skip
    have k1 := hzn.mp h459
    rw [k1, show zNm none = -1 from rfl]
    rw [k1] at hW
    refine pm_iconst (v := 1) dX7_others_462 (by decide) ?_
    refine pm_goto (tgt := 467) dX7_others_463 (by decide) ?_
    refine pm_iload dX7_others_467 rfl ?_
    refine pm_iconst (v := (-1)) dX7_others_469 (by decide) ?_
    refine pm_icmp_ne (tgt := 477) dX7_others_470 (by decide) (fun h470 => ?_) (fun h470 => ?_)
    · first
      | exact absurd rfl h470
      | (skip
         skip
         refine pm_iload dX7_others_477 rfl ?_
         refine pm_iconst (v := 1) dX7_others_479 (by decide) ?_
         refine pm_iadd dX7_others_480 ?_
         rw [nI_1]
         refine pm_vv (c_X7_set G l bs A E M (8 * p + ja) _ _ _ hm (by omega)) pm_y_X7_set pm_v_X7_set pm_m_X7_124 (c := 7) (r := (RX7, TX7, 41)) rfl rfl hm.1 dX7_others_481 rfl rfl (by decide) (Nat.le_of_ble_eq_true rfl) (fun S481 h481 => ?_)
         obtain ⟨M481, hm481, mt481, sl481⟩ := h481
         refine pm_goto (tgt := 550) dX7_others_484 (by decide) ?_
         subst hQ9
         refine pm_vret dX7_others_550 ?_
         subst hW
         exact ⟨M481, hm481, hr.reg hn h9b hp hja mt481 sl481⟩)
    · first
      | exact absurd h470 (nIm1 (by have := (hI.2.2.2.2.2.1.2 _ q9 hq9).2.1; omega))
      | (skip
         skip
         refine pm_iconst (v := 3) dX7_others_473 (by decide) ?_
         refine pm_goto (tgt := 481) dX7_others_474 (by decide) ?_
         refine pm_vv (c_X7_set G l bs A E M (8 * p + ja) _ _ _ hm (by omega)) pm_y_X7_set pm_v_X7_set pm_m_X7_124 (c := 7) (r := (RX7, TX7, 41)) rfl rfl hm.1 dX7_others_481 rfl rfl (by decide) (Nat.le_of_ble_eq_true rfl) (fun S481 h481 => ?_)
         obtain ⟨M481, hm481, mt481, sl481⟩ := h481
         refine pm_goto (tgt := 550) dX7_others_484 (by decide) ?_
         subst hQ9
         refine pm_vret dX7_others_550 ?_
         subst hW
         exact ⟨M481, hm481, hr.reg hn h9b hp hja mt481 sl481⟩)

set_option maxHeartbeats 4000000 in
set_option maxRecDepth 100000 in
theorem m_36 (G : pm_G) (l : Launch) (bs : Nat) (A : Nat → Nat) (E : pm_S) (M : pm_N) (b : Nat) (Z : az) (s : Nat) (p ja jb jc : Nat) (a bb c : Int32) (vo v9 v10 v11 : Value) (W : az) (S : pm_S) (hm : pm_MX M S A E) (hr : mR b Z M) (hI : zI s Z) (hp : p < az_a Z 0) (h0 : az_b Z 1 p = 0) (hja : ja < 8) (hjb : jb < 8) (hjc : jc < 8) (hW : zPrint (az_t Z 0 p ja) Z = W) : pm_W G l bs yX7_others.cls cX7_others 8 false 5 0 0 (pm_xv (fun S2 => ∃ M2, pm_MX M2 S2 A E ∧ mR b W M2)) 487 [.ref (A 50), .int (nI p), vo, .int a, .int bb, .int (nI (8 * p + ja)), .int (nI (8 * p + jb)), v9] [] S := by
  have hn := hI.1
  have hsm := hI.sm
  have h9b := hI.b9
  have h02 : az_b Z 1 p ≠ 2 := by omega
  have hsa := hr.G hp hja
  have hsb := hr.G hp hjb
  have hsc := hr.G hp hjc
  have hwa := hI.rg hp hja
  have hwb := hI.rg hp hjb
  have hwc := hI.rg hp hjc
  have hla := hwa.len
  have hlb := hwb.len
  have hlc := hwc.len
  generalize hQ9 : pm_xv (fun S2 => ∃ M2, pm_MX M2 S2 A E ∧ mR b W M2) = Q9
  have h9s : az_a Z 9 < 2 ^ 31 - 200 := by have q1 := hI.2.2.2.2.2.2.2.2.2.2.1.2; have q2 := hI.2.2.2.2.2.2.2.2.2.2.2.2.1; omega
  have loop : ∀ (m k : Nat) (M9 : pm_N) (S9 : pm_S), k + m = (az_t Z 0 p ja).length → pm_MX M9 S9 A E → (∀ s j, s ≠ 34 → M9.1 s j = M.1 s j) → (∀ f, f ≠ 35 → M9.2 f = M.2 f) → M9.2 35 = nI (az_a Z 9 + k) → (∀ i, i < 600 → i < az_a Z 9 + k → M9.1 34 i = if az_a Z 9 ≤ i then (az_t Z 0 p ja).getD (i - az_a Z 9) 0 else M.1 34 i) → pm_W G l bs yX7_others.cls cX7_others 8 false 5 0 0 Q9 490 [.ref (A 50), .int (nI p), vo, .int a, .int bb, .int (nI (8 * p + ja)), .int (nI (8 * p + jb)), .int (nI k)] [] S9 := by
    intro m
    induction m using Nat.strongRecOn with
    | ind m ih =>
    intro k M9 S9 hkm hm9 e19 e29 e39 e49
    refine pm_iload dX7_others_490 rfl ?_
    refine pm_aload_n dX7_others_492 rfl ?_
    refine pm_g_Model_sizes hm9.1 pm_f_X7_14 (hm9.2.1 1 (by decide)).1 dX7_others_493 ?_
    refine pm_iload dX7_others_496 rfl ?_
    refine mm_iaload (n := _) hm9 (by decide) rfl (by show _ < 2945; omega) dX7_others_498 ?_
    rw [e19 1 _ (by decide), hsa.2.1]
    refine pm_icmp_ge (tgt := 550) dX7_others_499 (by decide) (fun h499 => ?_) (fun h499 => ?_)
    · skip
      have h8 : k = (az_t Z 0 p ja).length := by have := (pm_nle (a := (az_t Z 0 p ja).length) (b := k) (by omega) (by omega)).mp h499; omega
      subst hQ9
      refine pm_vret dX7_others_550 ?_
      subst hW
      exact ⟨M9, hm9, hr.prt e19 e29 (by rw [← h8]; exact e39) (fun i h1 h2 => e49 i h1 (by omega))⟩
    · skip
      have h8 : k < (az_t Z 0 p ja).length := by rcases Nat.lt_or_ge k (az_t Z 0 p ja).length with q | q; exact q; exact absurd ((pm_nle (a := (az_t Z 0 p ja).length) (b := k) (by omega) (by omega)).mpr q) h499
      refine pm_aload_n dX7_others_502 rfl ?_
      refine pm_g_Model_printed hm9.1 pm_f_X7_260 dX7_others_503 ?_
      rw [hm9.f (g := 385) (f := 35) rfl]
      refine pm_sipush (v := 600) dX7_others_506 (by decide) ?_
      rw [e39]
      refine pm_icmp_ge (tgt := 534) dX7_others_509 (by decide) (fun h509 => ?_) (fun h509 => ?_)
      · skip
        have gp : 600 ≤ az_a Z 9 + k := (pm_nle (a := 600) (b := az_a Z 9 + k) (by omega) (by omega)).mp h509
        have hm533 := hm9
        have M533e : ∀ i, i < 600 → i < az_a Z 9 + (k + 1) → M9.1 34 i = if az_a Z 9 ≤ i then (az_t Z 0 p ja).getD (i - az_a Z 9) 0 else M.1 34 i := fun i h1 h2 => e49 i h1 (by omega)
        refine pm_aload_n dX7_others_534 rfl ?_
        refine pm_dup dX7_others_535 ?_
        refine pm_g_Model_printed hm9.1 pm_f_X7_260 dX7_others_536 ?_
        rw [hm9.f (g := 385) (f := 35) rfl]
        refine pm_iconst (v := 1) dX7_others_539 (by decide) ?_
        refine pm_iadd dX7_others_540 ?_
        try rw [mx_2]
        rw [e39, nI_1]
        refine pm_p_Model_printed hm9.1 pm_f_X7_260 dX7_others_541 ?_
        refine mm_gen (hm9.si (g := 385) (f := 35) rfl) (fun S541 hm541 => ?_)
        refine pm_iinc dX7_others_544 rfl rfl (by decide) ?_
        dsimp only [List.set]
        refine pm_goto (tgt := 490) dX7_others_547 (by decide) ?_
        rw [show nI k + Int32.ofInt 1 = nI (k + 1) from nI_1 _]
        first
        | exact ih (m - 1) (by omega) (k + 1) _ _ (by omega) hm541 (fun s j hs => by rw [mi_1, mx_o hs]; exact e19 s j hs) (fun f hf => by rw [mi_2, if_neg hf, mx_2]; exact e29 f hf) (by rw [mi_2, if_pos rfl]; rfl) M533e
        | exact ih (m - 1) (by omega) (k + 1) _ _ (by omega) hm541 (fun s j hs => by rw [mi_1]; exact e19 s j hs) (fun f hf => by rw [mi_2, if_neg hf]; exact e29 f hf) (by rw [mi_2, if_pos rfl]; rfl) M533e
      · skip
        have gp : az_a Z 9 + k < 600 := by rcases Nat.lt_or_ge (az_a Z 9 + k) 600 with q | q; exact q; exact absurd ((pm_nle (a := 600) (b := az_a Z 9 + k) (by omega) (by omega)).mpr q) h509
        refine pm_aload_n dX7_others_512 rfl ?_
        refine pm_g_Model_out hm9.1 pm_f_X7_99 (hm9.2.1 34 (by decide)).1 dX7_others_513 ?_
        refine pm_aload_n dX7_others_516 rfl ?_
        refine pm_g_Model_printed hm9.1 pm_f_X7_260 dX7_others_517 ?_
        rw [hm9.f (g := 385) (f := 35) rfl]
        refine pm_aload_n dX7_others_520 rfl ?_
        refine pm_g_Model_told hm9.1 pm_f_X7_8 (hm9.2.1 0 (by decide)).1 dX7_others_521 ?_
        refine pm_bipush (v := 95) dX7_others_524 (by decide) ?_
        refine pm_iload dX7_others_526 rfl ?_
        refine pm_imul dX7_others_528 ?_
        refine pm_iload dX7_others_529 rfl ?_
        refine pm_iadd dX7_others_531 ?_
        refine mm_iaload (n := _) hm9 (by decide) ix95 (by show _ < 279775; omega) dX7_others_532 ?_
        rw [e19 0 _ (by decide), hsa.2.2 k h8]
        refine mm_iastore (n := az_a Z 9 + k) hm9 (by decide) e39 (by show _ < 600; omega) dX7_others_533 (fun S533 hm533 => ?_)
        have M533e : ∀ i, i < 600 → i < az_a Z 9 + (k + 1) → (mx M9 34 (az_a Z 9 + k) ((az_t Z 0 p ja).getD k 0)).1 34 i = if az_a Z 9 ≤ i then (az_t Z 0 p ja).getD (i - az_a Z 9) 0 else M.1 34 i := fun i h1 h2 => by
          by_cases e : i = az_a Z 9 + k
          · rw [e, mx_s, if_pos (by omega), show az_a Z 9 + k - az_a Z 9 = k from by omega]
          · rw [mx_k e]; exact e49 i h1 (by omega)
        refine pm_aload_n dX7_others_534 rfl ?_
        refine pm_dup dX7_others_535 ?_
        refine pm_g_Model_printed hm533.1 pm_f_X7_260 dX7_others_536 ?_
        rw [hm533.f (g := 385) (f := 35) rfl]
        refine pm_iconst (v := 1) dX7_others_539 (by decide) ?_
        refine pm_iadd dX7_others_540 ?_
        try rw [mx_2]
        rw [e39, nI_1]
        refine pm_p_Model_printed hm533.1 pm_f_X7_260 dX7_others_541 ?_
        refine mm_gen (hm533.si (g := 385) (f := 35) rfl) (fun S541 hm541 => ?_)
        refine pm_iinc dX7_others_544 rfl rfl (by decide) ?_
        dsimp only [List.set]
        refine pm_goto (tgt := 490) dX7_others_547 (by decide) ?_
        rw [show nI k + Int32.ofInt 1 = nI (k + 1) from nI_1 _]
        first
        | exact ih (m - 1) (by omega) (k + 1) _ _ (by omega) hm541 (fun s j hs => by rw [mi_1, mx_o hs]; exact e19 s j hs) (fun f hf => by rw [mi_2, if_neg hf, mx_2]; exact e29 f hf) (by rw [mi_2, if_pos rfl]; rfl) M533e
        | exact ih (m - 1) (by omega) (k + 1) _ _ (by omega) hm541 (fun s j hs => by rw [mi_1]; exact e19 s j hs) (fun f hf => by rw [mi_2, if_neg hf]; exact e29 f hf) (by rw [mi_2, if_pos rfl]; rfl) M533e
  refine pm_iconst (v := 0) dX7_others_487 (by decide) ?_
  refine pm_istore dX7_others_488 (by decide) ?_
  dsimp only [List.set]
  exact loop (az_t Z 0 p ja).length 0 M _ (by omega) hm (fun _ _ _ => rfl) (fun _ _ => rfl) (hr.A (i := 9) rfl) (fun i _ h2 => by rw [if_neg (by omega)])

