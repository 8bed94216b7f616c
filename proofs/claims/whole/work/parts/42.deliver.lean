/-! a message comes -/
set_option maxHeartbeats 4000000 in
set_option maxRecDepth 100000 in
theorem c_X0_newRow0 (G : pm_G) (l : Launch) (bs : Nat) (m a n : Nat) (S : pm_S) (hm : pm_mb S m a) (hn : pm_i S 1 m = nI n) (hn3 : n < 2 ^ 31) (hz0 : n < 40 → ∃ t, pm_z S a n = some t) : pm_M G l bs yX0_newRow cX0_newRow 1 (some (.object "ProcessMill$Term")) 0 0 0 [.ref m] S (pm_qr (fun x S2 => (40 ≤ n ∧ x = none ∧ S2 = S) ∨ (n < 40 ∧ ∃ t, pm_z S a n = some t ∧ x = some t ∧ S2 = pm_si S 1 m (nI (n + 1))))) := by
  obtain ⟨hk, hp, hka, hna⟩ := hm
  refine pm_Mr (L := [.ref m]) (by decide +kernel) rfl (pm_en_1 rfl (pm_en_0 rfl)) ?_
  generalize hQ9 : pm_xr (fun x S2 => (40 ≤ n ∧ x = none ∧ S2 = S) ∨ (n < 40 ∧ ∃ t, pm_z S a n = some t ∧ x = some t ∧ S2 = pm_si S 1 m (nI (n + 1)))) = Q9
  refine pm_aload_n dX0_newRow_0 rfl ?_
  refine pm_g_Mailbox_count (by (try simp only [pm_k_si, pm_k_sj, pm_k_sp, pm_k_sx, pm_k_sz, pm_k_sr, pm_k_sy]); assumption) pm_f_X0_15 dX0_newRow_1 ?_
  refine pm_bipush (v := 40) dX0_newRow_4 (by decide) ?_
  rw [hn]
  refine pm_icmp_lt (tgt := 11) dX0_newRow_6 (by decide) (fun h6 => ?_) (fun h6 => ?_)
  · skip
    have h9 : n < 40 := (pm_lt16 (m := 40) hn3 (by decide)).mp h6
    obtain ⟨t, hz⟩ := hz0 h9
    refine pm_aload_n dX0_newRow_11 rfl ?_
    refine pm_g_Mailbox_rows (by (try simp only [pm_k_si, pm_k_sj, pm_k_sp, pm_k_sx, pm_k_sz, pm_k_sr, pm_k_sy]); assumption) pm_f_X0_11 (by (try simp only [pm_p_si, pm_p_sj, pm_p_sx, pm_p_sz, pm_p_sr, pm_p_sy]); assumption) dX0_newRow_12 ?_
    refine pm_aload_n dX0_newRow_15 rfl ?_
    refine pm_g_Mailbox_count (by (try simp only [pm_k_si, pm_k_sj, pm_k_sp, pm_k_sx, pm_k_sz, pm_k_sr, pm_k_sy]); assumption) pm_f_X0_15 dX0_newRow_16 ?_
    refine pm_aaloadT (n := n) (by (try simp only [pm_k_si, pm_k_sj, pm_k_sp, pm_k_sx, pm_k_sz, pm_k_sr, pm_k_sy]); assumption) hn (by first | omega | (simp only [pm_n_sx, pm_n_si, pm_n_sr, pm_n_sz, pm_n_sp, pm_n_sj, pm_n_sy]; omega)) (by first | omega | (simp only [pm_n_sx, pm_n_si, pm_n_sr, pm_n_sz, pm_n_sp, pm_n_sj, pm_n_sy]; omega)) dX0_newRow_19 ?_
    rw [hz]
    show pm_W _ _ _ _ _ _ _ _ _ _ _ _ _ [.ref t] S
    refine pm_ifnonnull_r (tgt := 39) dX0_newRow_20 (by decide) ?_
    refine pm_aload_n dX0_newRow_39 rfl ?_
    refine pm_dup dX0_newRow_40 ?_
    refine pm_g_Mailbox_count (by (try simp only [pm_k_si, pm_k_sj, pm_k_sp, pm_k_sx, pm_k_sz, pm_k_sr, pm_k_sy]); assumption) pm_f_X0_15 dX0_newRow_41 ?_
    refine pm_iconst (v := 1) dX0_newRow_44 (by decide) ?_
    refine pm_iadd dX0_newRow_45 ?_
    rw [hn, nI_1]
    refine pm_p_Mailbox_count (by (try simp only [pm_k_si, pm_k_sj, pm_k_sp, pm_k_sx, pm_k_sz, pm_k_sr, pm_k_sy]); assumption) pm_f_X0_15 dX0_newRow_46 ?_
    refine pm_aload_n dX0_newRow_49 rfl ?_
    refine pm_g_Mailbox_rows (by (try simp only [pm_k_si, pm_k_sj, pm_k_sp, pm_k_sx, pm_k_sz, pm_k_sr, pm_k_sy]); assumption) pm_f_X0_11 (by (try simp only [pm_p_si, pm_p_sj, pm_p_sx, pm_p_sz, pm_p_sr, pm_p_sy]); assumption) dX0_newRow_50 ?_
    refine pm_aload_n dX0_newRow_53 rfl ?_
    refine pm_g_Mailbox_count (by (try simp only [pm_k_si, pm_k_sj, pm_k_sp, pm_k_sx, pm_k_sz, pm_k_sr, pm_k_sy]); assumption) pm_f_X0_15 dX0_newRow_54 ?_
    refine pm_iconst (v := 1) dX0_newRow_57 (by decide) ?_
    refine pm_isub dX0_newRow_58 ?_
    rw [pm_i_si, if_pos ⟨rfl, rfl⟩, show nI (n + 1) - 1 = nI n from nI_pred n]
    refine pm_aaloadT (n := n) (by (try simp only [pm_k_si, pm_k_sj, pm_k_sp, pm_k_sx, pm_k_sz, pm_k_sr, pm_k_sy]); assumption) rfl (by first | omega | (simp only [pm_n_sx, pm_n_si, pm_n_sr, pm_n_sz, pm_n_sp, pm_n_sj, pm_n_sy]; omega)) (by first | omega | (simp only [pm_n_sx, pm_n_si, pm_n_sr, pm_n_sz, pm_n_sp, pm_n_sj, pm_n_sy]; omega)) dX0_newRow_59 ?_
    subst hQ9
    refine pm_aretr dX0_newRow_60 ?_
    rw [pm_z_si]
    exact Or.inr ⟨h9, t, hz, hz, rfl⟩
  · skip
    have h9 : 40 ≤ n := by rcases Nat.lt_or_ge n 40 with q | q; exact absurd ((pm_lt16 (m := 40) hn3 (by decide)).mpr q) h6; exact q
    refine pm_null dX0_newRow_9 ?_
    subst hQ9
    refine pm_aretn dX0_newRow_10 ?_
    exact Or.inl ⟨h9, rfl, rfl⟩

set_option maxHeartbeats 4000000 in
set_option maxRecDepth 100000 in
theorem c_X6_deliver0 (G : pm_G) (l : Launch) (bs : Nat) (Z : az) (Y : pm_Y) (E : pm_S) (p t2 r2 : Nat) (w : List Int32) (S : pm_S) (hx : pm_CX Z S Y E) (hn : az_a Z 0 ≤ 60) (hp : p < az_a Z 0) (hsm : zSm Z) (ht : pm_tm S t2 r2 w) (hna : az_b Z 1 p ≠ 2 → az_b Z 9 p < 40 → az_b Z 9 p < Y.2.1 p) : pm_M G l bs yX6_deliver cX6_deliver 4 (some .boolean) 3 0 0 [.ref (Y.1 0), .ref (Y.1 (pq p 0)), .ref t2] S (pm_qi (fun x S2 => ∃ Y2, yLe (az_a Z 0) Y Y2 ∧ pm_CX (zComes Z p w) S2 Y2 E ∧ x = (if az_b Z 1 p ≠ 2 ∧ az_b Z 9 p < 40 then 1 else 0))) := by
  obtain ⟨h, hmk⟩ := id hx
  have hA := h.2.2.2.2.2.1
  obtain ⟨⟨hk0, hr0, hr1, hr2, hr3, hr4, hr5, hr6, hr7⟩, ⟨hk1, hl1⟩, ⟨hk2, hl2⟩, ⟨hk3, hl3⟩, ⟨hk4, hl4⟩, hWt, hSh, hLt, hCs⟩ := id h.2.2.1
  have hB := h.2.2.2.2.1 p hp
  obtain ⟨⟨pk0, pr1, pr2, pr4, pr6, ppid⟩, ⟨pk1, pn1, pz1⟩, hmb, hts⟩ := id (h.2.2.2.1 p hp)
  refine pm_Mz (L := [.ref (Y.1 0), .ref (Y.1 (pq p 0)), .ref t2, pm_u]) (by decide +kernel) rfl (pm_en_1 rfl (pm_en_1 rfl (pm_en_1 rfl (pm_en_0 rfl)))) ?_
  generalize hQ9 : pm_xz (fun x S2 => ∃ Y2, yLe (az_a Z 0) Y Y2 ∧ pm_CX (zComes Z p w) S2 Y2 E ∧ x = (if az_b Z 1 p ≠ 2 ∧ az_b Z 9 p < 40 then 1 else 0)) = Q9
  have tail : az_b Z 1 p ≠ 2 ∧ az_b Z 9 p < 40 → ∀ (Y9 : pm_Y) (S9 : pm_S) (w0 : List Int32) (t : Nat) (L3 : List Value), yLe (az_a Z 0) Y Y9 → az_b Z 9 p < Y9.2.1 p → t = Y9.1 (pq p (30 + Y9.2.2 p (az_b Z 9 p))) → L3 = [.ref (Y.1 0), .ref (Y.1 (pq p 0)), .ref t2, .ref t] → pm_CR (zs_b (zs_t Z 2 p (az_b Z 9 p) w0) 9 p (az_b Z 9 p + 1)) S9 Y9 E → pm_tm S9 t2 r2 w → (∀ q, q < az_a Z 0 → Y9.2.1 q = az_b (zs_b Z 12 p (max (az_b Z 12 p) (az_b Z 9 p + 1))) 12 q) → pm_W G l bs yX6_deliver.cls cX6_deliver 4 false 3 0 0 Q9 24 L3 [] S9 := by
    intro hok Y9 S9 w0 t L3 hle hk et eL hC htm hY
    subst eL
    have hn9 : az_a (zs_b (zs_t Z 2 p (az_b Z 9 p) w0) 9 p (az_b Z 9 p + 1)) 0 ≤ 60 := hn
    have e0 := hle.c (c := 0) (by omega)
    have e1 := hle.p (c := 0) hp (by omega)
    obtain ⟨q1, q2, q3, q4, q5, q6⟩ := hC.2.2.2.2.2.2.2.2.2.2.2.2.2.1 p hp
    obtain ⟨qa, qw, qb⟩ := q4 (az_b Z 9 p) hk
    rw [← et] at qb
    have eZ : zs_t (zs_b (zs_t Z 2 p (az_b Z 9 p) w0) 9 p (az_b Z 9 p + 1)) 2 p (az_b Z 9 p) w = zs_b (zs_t Z 2 p (az_b Z 9 p) w) 9 p (az_b Z 9 p + 1) := by
      refine az_ext rfl rfl rfl rfl rfl ?_ rfl rfl
      funext i q k
      rw [z_t_t, z_t_b, z_t_t, z_t_b, z_t_t]
      by_cases e : i = 2 ∧ q = p ∧ k = az_b Z 9 p
      · rw [if_pos e, if_pos e]
      · rw [if_neg e, if_neg e, if_neg e]
    rw [← e0, ← e1]
    refine pm_aload_n dX6_deliver_24 rfl ?_
    refine pm_aload_n dX6_deliver_25 rfl ?_
    refine pm_vv (c_X3_copy G l bs t _ t2 r2 w S9 qb.1 htm) pm_y_X3_copy pm_v_X3_copy pm_m_X6_323 (c := 3) (r := (RX3, TX3, 2)) rfl rfl qb.1.1 dX6_deliver_26 rfl rfl (by decide) (Nat.le_of_ble_eq_true rfl) (fun S26 h26 => ?_)
    have h8 := hC.ml (p := p) (k := az_b Z 9 p) (w := w) hn9 hp hk (by rw [← et]; exact h26.1) (by rw [← et]; exact h26.2)
    rw [eZ] at h8
    replace h8 := h8.b12 (p := p) (v := max (az_b Z 12 p) (az_b Z 9 p + 1))
    have hA9 := h8.2.2.2.2.2.1
    have hB9 := h8.2.2.2.2.1 p hp
    have k09 := h8.2.2.1.1.1
    have kp9 := (h8.2.2.2.1 p hp).1.1
    refine pm_aload_n dX6_deliver_29 rfl ?_
    refine pm_dup dX6_deliver_30 ?_
    refine pm_g_Mill_messagesCame (by (try simp only [pm_k_si, pm_k_sj, pm_k_sp, pm_k_sx, pm_k_sz, pm_k_sr, pm_k_sy]); assumption) pm_f_X6_71 dX6_deliver_31 ?_
    refine pm_iconst (v := 1) dX6_deliver_34 (by decide) ?_
    refine pm_iadd dX6_deliver_35 ?_
    rw [hA9 315 0 7 rfl, nI_1]
    refine pm_p_Mill_messagesCame (by (try simp only [pm_k_si, pm_k_sj, pm_k_sp, pm_k_sx, pm_k_sz, pm_k_sr, pm_k_sy]); assumption) pm_f_X6_71 dX6_deliver_36 ?_
    have h7 := h8.a (f := 315) (v := az_a (zs_b (zs_b (zs_t Z 2 p (az_b Z 9 p) w) 9 p (az_b Z 9 p + 1)) 12 p (max (az_b Z 12 p) (az_b Z 9 p + 1))) 7 + 1) rfl (by decide)
    have hB7 := h7.2.2.2.2.1 p hp
    refine pm_aload_n dX6_deliver_39 rfl ?_
    refine pm_g_Proc_state (by (try simp only [pm_k_si, pm_k_sj, pm_k_sp, pm_k_sx, pm_k_sz, pm_k_sr, pm_k_sy]); assumption) pm_f_X6_142 dX6_deliver_40 ?_
    refine pm_iconst (v := 1) dX6_deliver_43 (by decide) ?_
    rw [hB7 56 0 1 rfl]
    refine pm_icmp_ne (tgt := 56) dX6_deliver_44 (by decide) (fun h44 => ?_) (fun h44 => ?_)
    · skip
      have h6 : ¬ az_b Z 1 p = 1 := fun z => h44 (by show nI (az_b Z 1 p) = 1; rw [z]; rfl)
      refine pm_iconst (v := 1) dX6_deliver_56 (by decide) ?_
      subst hQ9
      refine pm_zret dX6_deliver_57 (by first | exact Or.inl rfl | exact Or.inr rfl | assumption) ?_
      first
      | exact ⟨Y9, hle, by rw [zComes, if_pos hok]; dsimp only; rw [if_pos h6]; exact ⟨h53, hY⟩, by rw [if_pos hok]⟩
      | exact ⟨Y9, hle, by rw [zComes, if_pos hok]; dsimp only; rw [if_neg h6]; exact ⟨h7, hY⟩, by rw [if_pos hok]⟩
    · skip
      have h6 : az_b Z 1 p = 1 := (pm_ni1 (hsm p hp 1 (by decide))).mp h44
      refine pm_aload_n dX6_deliver_47 rfl ?_
      refine pm_aload_n dX6_deliver_48 rfl ?_
      refine pm_aload_n dX6_deliver_49 rfl ?_
      refine pm_g_Proc_atIfMail (by (try simp only [pm_k_si, pm_k_sj, pm_k_sp, pm_k_sx, pm_k_sz, pm_k_sr, pm_k_sy]); assumption) pm_f_X6_364 dX6_deliver_50 ?_
      rw [hB7 58 0 3 rfl]
      refine pm_vv (c_X6_makeReady G l bs _ Y9 E p (az_b Z 3 p) _ h7 hn hp) pm_y_X6_makeReady pm_v_X6_makeReady pm_m_X6_126 (c := 6) (r := (RX6, TX6, 16)) rfl rfl (by (try simp only [pm_k_si, pm_k_sj, pm_k_sp, pm_k_sx, pm_k_sz, pm_k_sr, pm_k_sy]); assumption) dX6_deliver_53 rfl rfl (by decide) (Nat.le_of_ble_eq_true rfl) (fun S53 h53 => ?_)
      refine pm_iconst (v := 1) dX6_deliver_56 (by decide) ?_
      subst hQ9
      refine pm_zret dX6_deliver_57 (by first | exact Or.inl rfl | exact Or.inr rfl | assumption) ?_
      first
      | exact ⟨Y9, hle, by rw [zComes, if_pos hok]; dsimp only; rw [if_pos h6]; exact ⟨h53, hY⟩, by rw [if_pos hok]⟩
      | exact ⟨Y9, hle, by rw [zComes, if_pos hok]; dsimp only; rw [if_neg h6]; exact ⟨h7, hY⟩, by rw [if_pos hok]⟩
  refine pm_aload_n dX6_deliver_0 rfl ?_
  refine pm_g_Proc_state (by (try simp only [pm_k_si, pm_k_sj, pm_k_sp, pm_k_sx, pm_k_sz, pm_k_sr, pm_k_sy]); assumption) pm_f_X6_142 dX6_deliver_1 ?_
  refine pm_iconst (v := 2) dX6_deliver_4 (by decide) ?_
  rw [hB 56 0 1 rfl]
  refine pm_icmp_ne (tgt := 10) dX6_deliver_5 (by decide) (fun h5 => ?_) (fun h5 => ?_)
  · skip
    have h9 : az_b Z 1 p ≠ 2 := fun z => h5 (by rw [z]; rfl)
    refine pm_aload_n dX6_deliver_10 rfl ?_
    refine pm_g_Proc_box (by (try simp only [pm_k_si, pm_k_sj, pm_k_sp, pm_k_sx, pm_k_sz, pm_k_sr, pm_k_sy]); assumption) pm_f_X6_114 (by (try simp only [pm_p_si, pm_p_sj, pm_p_sx, pm_p_sz, pm_p_sr, pm_p_sy]); assumption) dX6_deliver_11 ?_
    obtain ⟨m1, m2, m3, m4, m5, m6⟩ := h.2.2.2.2.2.2.2.2.2.2.2.2.2.1 p hp
    refine pm_vr (c_X0_newRow0 G l bs (Y.1 (pq p 4)) (Y.1 (pq p 5)) (az_b Z 9 p) S hmb (hB 1 4 9 rfl) (hsm p hp 9 (by decide)) (fun q => ⟨_, (m3 (az_b Z 9 p) q).trans (if_pos (hna h9 q))⟩)) pm_y_X0_newRow pm_v_X0_newRow pm_m_X6_361 (c := 0) (r := (RX0, TX0, 3)) rfl rfl hmb.1 dX6_deliver_14 rfl rfl (by decide) (Nat.le_of_ble_eq_true rfl) (fun x14 S14 h14 => ?_)
    rcases h14 with ⟨h40, rfl, rfl⟩ | ⟨hlt, t, hz, rfl, rfl⟩
    · skip
      show pm_W _ _ _ _ _ _ _ _ _ _ _ _ _ [.null] _
      refine pm_astn dX6_deliver_17 (i := 3) rfl (by decide) ?_
      dsimp only [List.set]
      refine pm_aload_n dX6_deliver_18 rfl ?_
      refine pm_ifnonnull_n dX6_deliver_19 ?_
      refine pm_iconst (v := 0) dX6_deliver_22 (by decide) ?_
      subst hQ9
      refine pm_zret dX6_deliver_23 (by first | exact Or.inl rfl | exact Or.inr rfl | assumption) ?_
      exact ⟨Y, yLe.rf, by rw [zComes, if_neg (fun z => by omega)]; exact hx, by rw [if_neg (fun z => by omega)]⟩
    · skip
      show pm_W _ _ _ _ _ _ _ _ _ _ _ _ _ [.ref t] _
      refine pm_astn dX6_deliver_17 (i := 3) rfl (by decide) ?_
      dsimp only [List.set]
      refine pm_aload_n dX6_deliver_18 rfl ?_
      refine pm_ifnonnull_r (tgt := 24) dX6_deliver_19 (by decide) ?_
      have hlk := hna h9 hlt
      obtain ⟨e9, w0, hw0⟩ := m4 (az_b Z 9 p) hlk
      have hz2 := m3 (az_b Z 9 p) hlt
      rw [if_pos hlk, hz] at hz2
      have et := Option.some.inj hz2
      have hC := (h.tz (p := p) (k := az_b Z 9 p) (w := w0) (Nat.le_refl _)).b (p := p) (f := 1) (v := az_b Z 9 p + 1) hn hp rfl (h9 := fun _ => ⟨by omega, fun k hk => by
        rw [z_t_t]
        by_cases e : k = az_b Z 9 p
        · rw [if_pos ⟨rfl, rfl, e⟩, e]; exact hw0
        · rw [if_neg (fun z => e z.2.2)]; exact m6 k (by omega)⟩)
      exact tail ⟨h9, hlt⟩ Y _ w0 t _ yLe.rf hlk et rfl hC (ht.si (by decide)) (fun q hq => by
        rw [z_b_b, hmk q hq]
        by_cases e : q = p
        · rw [if_pos ⟨rfl, e⟩, e]; have := hmk p hp; omega
        · rw [if_neg (fun z => e z.2)])
  · skip
    have h9 : az_b Z 1 p = 2 := (pm_e2 (hsm p hp 1 (by decide))).mp h5
    refine pm_iconst (v := 0) dX6_deliver_8 (by decide) ?_
    subst hQ9
    refine pm_zret dX6_deliver_9 (by first | exact Or.inl rfl | exact Or.inr rfl | assumption) ?_
    exact ⟨Y, yLe.rf, by rw [zComes, if_neg (fun z => z.1 h9)]; exact hx, by rw [if_neg (fun z => z.1 h9)]⟩

set_option maxHeartbeats 4000000 in
set_option maxRecDepth 100000 in
theorem c_X6_deliver1 (G : pm_G) (l : Launch) (bs : Nat) (Z : az) (Y : pm_Y) (E : pm_S) (p t2 r2 : Nat) (w : List Int32) (S : pm_S) (hx : pm_CX Z S Y E) (hn : az_a Z 0 ≤ 60) (hp : p < az_a Z 0) (hsm : zSm Z) (ht : pm_tm S t2 r2 w) (hlt : az_b Z 9 p < 40) (ekm : Y.2.1 p = az_b Z 9 p) : pm_M G l bs yX6_deliver cX6_deliver 4 (some .boolean) 3 2 98 [.ref (Y.1 0), .ref (Y.1 (pq p 0)), .ref t2] S (pm_qi (fun x S2 => ∃ Y2, yLe (az_a Z 0) Y Y2 ∧ pm_CX (zComes Z p w) S2 Y2 E ∧ x = (if az_b Z 1 p ≠ 2 ∧ az_b Z 9 p < 40 then 1 else 0))) := by
  obtain ⟨h, hmk⟩ := id hx
  have hA := h.2.2.2.2.2.1
  obtain ⟨⟨hk0, hr0, hr1, hr2, hr3, hr4, hr5, hr6, hr7⟩, ⟨hk1, hl1⟩, ⟨hk2, hl2⟩, ⟨hk3, hl3⟩, ⟨hk4, hl4⟩, hWt, hSh, hLt, hCs⟩ := id h.2.2.1
  have hB := h.2.2.2.2.1 p hp
  obtain ⟨⟨pk0, pr1, pr2, pr4, pr6, ppid⟩, ⟨pk1, pn1, pz1⟩, hmb, hts⟩ := id (h.2.2.2.1 p hp)
  refine pm_Mz (L := [.ref (Y.1 0), .ref (Y.1 (pq p 0)), .ref t2, pm_u]) (by decide +kernel) rfl (pm_en_1 rfl (pm_en_1 rfl (pm_en_1 rfl (pm_en_0 rfl)))) ?_
  generalize hQ9 : pm_xz (fun x S2 => ∃ Y2, yLe (az_a Z 0) Y Y2 ∧ pm_CX (zComes Z p w) S2 Y2 E ∧ x = (if az_b Z 1 p ≠ 2 ∧ az_b Z 9 p < 40 then 1 else 0)) = Q9
  have tail : az_b Z 1 p ≠ 2 ∧ az_b Z 9 p < 40 → ∀ (Y9 : pm_Y) (S9 : pm_S) (w0 : List Int32) (t : Nat) (L3 : List Value), yLe (az_a Z 0) Y Y9 → az_b Z 9 p < Y9.2.1 p → t = Y9.1 (pq p (30 + Y9.2.2 p (az_b Z 9 p))) → L3 = [.ref (Y.1 0), .ref (Y.1 (pq p 0)), .ref t2, .ref t] → pm_CR (zs_b (zs_t Z 2 p (az_b Z 9 p) w0) 9 p (az_b Z 9 p + 1)) S9 Y9 E → pm_tm S9 t2 r2 w → (∀ q, q < az_a Z 0 → Y9.2.1 q = az_b (zs_b Z 12 p (max (az_b Z 12 p) (az_b Z 9 p + 1))) 12 q) → pm_W G l bs yX6_deliver.cls cX6_deliver 4 false 3 0 0 Q9 24 L3 [] S9 := by
    intro hok Y9 S9 w0 t L3 hle hk et eL hC htm hY
    subst eL
    have hn9 : az_a (zs_b (zs_t Z 2 p (az_b Z 9 p) w0) 9 p (az_b Z 9 p + 1)) 0 ≤ 60 := hn
    have e0 := hle.c (c := 0) (by omega)
    have e1 := hle.p (c := 0) hp (by omega)
    obtain ⟨q1, q2, q3, q4, q5, q6⟩ := hC.2.2.2.2.2.2.2.2.2.2.2.2.2.1 p hp
    obtain ⟨qa, qw, qb⟩ := q4 (az_b Z 9 p) hk
    rw [← et] at qb
    have eZ : zs_t (zs_b (zs_t Z 2 p (az_b Z 9 p) w0) 9 p (az_b Z 9 p + 1)) 2 p (az_b Z 9 p) w = zs_b (zs_t Z 2 p (az_b Z 9 p) w) 9 p (az_b Z 9 p + 1) := by
      refine az_ext rfl rfl rfl rfl rfl ?_ rfl rfl
      funext i q k
      rw [z_t_t, z_t_b, z_t_t, z_t_b, z_t_t]
      by_cases e : i = 2 ∧ q = p ∧ k = az_b Z 9 p
      · rw [if_pos e, if_pos e]
      · rw [if_neg e, if_neg e, if_neg e]
    rw [← e0, ← e1]
    refine pm_aload_n dX6_deliver_24 rfl ?_
    refine pm_aload_n dX6_deliver_25 rfl ?_
    refine pm_vv (c_X3_copy G l bs t _ t2 r2 w S9 qb.1 htm) pm_y_X3_copy pm_v_X3_copy pm_m_X6_323 (c := 3) (r := (RX3, TX3, 2)) rfl rfl qb.1.1 dX6_deliver_26 rfl rfl (by decide) (Nat.le_of_ble_eq_true rfl) (fun S26 h26 => ?_)
    have h8 := hC.ml (p := p) (k := az_b Z 9 p) (w := w) hn9 hp hk (by rw [← et]; exact h26.1) (by rw [← et]; exact h26.2)
    rw [eZ] at h8
    replace h8 := h8.b12 (p := p) (v := max (az_b Z 12 p) (az_b Z 9 p + 1))
    have hA9 := h8.2.2.2.2.2.1
    have hB9 := h8.2.2.2.2.1 p hp
    have k09 := h8.2.2.1.1.1
    have kp9 := (h8.2.2.2.1 p hp).1.1
    refine pm_aload_n dX6_deliver_29 rfl ?_
    refine pm_dup dX6_deliver_30 ?_
    refine pm_g_Mill_messagesCame (by (try simp only [pm_k_si, pm_k_sj, pm_k_sp, pm_k_sx, pm_k_sz, pm_k_sr, pm_k_sy]); assumption) pm_f_X6_71 dX6_deliver_31 ?_
    refine pm_iconst (v := 1) dX6_deliver_34 (by decide) ?_
    refine pm_iadd dX6_deliver_35 ?_
    rw [hA9 315 0 7 rfl, nI_1]
    refine pm_p_Mill_messagesCame (by (try simp only [pm_k_si, pm_k_sj, pm_k_sp, pm_k_sx, pm_k_sz, pm_k_sr, pm_k_sy]); assumption) pm_f_X6_71 dX6_deliver_36 ?_
    have h7 := h8.a (f := 315) (v := az_a (zs_b (zs_b (zs_t Z 2 p (az_b Z 9 p) w) 9 p (az_b Z 9 p + 1)) 12 p (max (az_b Z 12 p) (az_b Z 9 p + 1))) 7 + 1) rfl (by decide)
    have hB7 := h7.2.2.2.2.1 p hp
    refine pm_aload_n dX6_deliver_39 rfl ?_
    refine pm_g_Proc_state (by (try simp only [pm_k_si, pm_k_sj, pm_k_sp, pm_k_sx, pm_k_sz, pm_k_sr, pm_k_sy]); assumption) pm_f_X6_142 dX6_deliver_40 ?_
    refine pm_iconst (v := 1) dX6_deliver_43 (by decide) ?_
    rw [hB7 56 0 1 rfl]
    refine pm_icmp_ne (tgt := 56) dX6_deliver_44 (by decide) (fun h44 => ?_) (fun h44 => ?_)
    · skip
      have h6 : ¬ az_b Z 1 p = 1 := fun z => h44 (by show nI (az_b Z 1 p) = 1; rw [z]; rfl)
      refine pm_iconst (v := 1) dX6_deliver_56 (by decide) ?_
      subst hQ9
      refine pm_zret dX6_deliver_57 (by first | exact Or.inl rfl | exact Or.inr rfl | assumption) ?_
      first
      | exact ⟨Y9, hle, by rw [zComes, if_pos hok]; dsimp only; rw [if_pos h6]; exact ⟨h53, hY⟩, by rw [if_pos hok]⟩
      | exact ⟨Y9, hle, by rw [zComes, if_pos hok]; dsimp only; rw [if_neg h6]; exact ⟨h7, hY⟩, by rw [if_pos hok]⟩
    · skip
      have h6 : az_b Z 1 p = 1 := (pm_ni1 (hsm p hp 1 (by decide))).mp h44
      refine pm_aload_n dX6_deliver_47 rfl ?_
      refine pm_aload_n dX6_deliver_48 rfl ?_
      refine pm_aload_n dX6_deliver_49 rfl ?_
      refine pm_g_Proc_atIfMail (by (try simp only [pm_k_si, pm_k_sj, pm_k_sp, pm_k_sx, pm_k_sz, pm_k_sr, pm_k_sy]); assumption) pm_f_X6_364 dX6_deliver_50 ?_
      rw [hB7 58 0 3 rfl]
      refine pm_vv (c_X6_makeReady G l bs _ Y9 E p (az_b Z 3 p) _ h7 hn hp) pm_y_X6_makeReady pm_v_X6_makeReady pm_m_X6_126 (c := 6) (r := (RX6, TX6, 16)) rfl rfl (by (try simp only [pm_k_si, pm_k_sj, pm_k_sp, pm_k_sx, pm_k_sz, pm_k_sr, pm_k_sy]); assumption) dX6_deliver_53 rfl rfl (by decide) (Nat.le_of_ble_eq_true rfl) (fun S53 h53 => ?_)
      refine pm_iconst (v := 1) dX6_deliver_56 (by decide) ?_
      subst hQ9
      refine pm_zret dX6_deliver_57 (by first | exact Or.inl rfl | exact Or.inr rfl | assumption) ?_
      first
      | exact ⟨Y9, hle, by rw [zComes, if_pos hok]; dsimp only; rw [if_pos h6]; exact ⟨h53, hY⟩, by rw [if_pos hok]⟩
      | exact ⟨Y9, hle, by rw [zComes, if_pos hok]; dsimp only; rw [if_neg h6]; exact ⟨h7, hY⟩, by rw [if_pos hok]⟩
  refine pm_aload_n dX6_deliver_0 rfl ?_
  refine pm_g_Proc_state (by (try simp only [pm_k_si, pm_k_sj, pm_k_sp, pm_k_sx, pm_k_sz, pm_k_sr, pm_k_sy]); assumption) pm_f_X6_142 dX6_deliver_1 ?_
  refine pm_iconst (v := 2) dX6_deliver_4 (by decide) ?_
  rw [hB 56 0 1 rfl]
  refine pm_icmp_ne (tgt := 10) dX6_deliver_5 (by decide) (fun h5 => ?_) (fun h5 => ?_)
  · skip
    have h9 : az_b Z 1 p ≠ 2 := fun z => h5 (by rw [z]; rfl)
    refine pm_aload_n dX6_deliver_10 rfl ?_
    refine pm_g_Proc_box (by (try simp only [pm_k_si, pm_k_sj, pm_k_sp, pm_k_sx, pm_k_sz, pm_k_sr, pm_k_sy]); assumption) pm_f_X6_114 (by (try simp only [pm_p_si, pm_p_sj, pm_p_sx, pm_p_sz, pm_p_sr, pm_p_sy]); assumption) dX6_deliver_11 ?_
    obtain ⟨m1, m2, m3, m4, m5, m6⟩ := h.2.2.2.2.2.2.2.2.2.2.2.2.2.1 p hp
    refine pm_vrk (kc2 := 0) (ks2 := 0) (c_X0_newRow G l bs (Y.1 (pq p 4)) (Y.1 (pq p 5)) (az_b Z 9 p) S hmb (hB 1 4 9 rfl) (hsm p hp 9 (by decide))) pm_y_X0_newRow pm_v_X0_newRow pm_m_X6_361 (c := 0) (r := (RX0, TX0, 3)) rfl rfl hmb.1 dX6_deliver_14 rfl rfl (by decide) (Nat.le_of_ble_eq_true rfl) (by decide) (by decide) (fun x14 S14 h14 => ?_)
    rcases h14 with ⟨h40, rfl, rfl⟩ | ⟨-, (⟨t, hz, rfl, rfl⟩ | ⟨hz, t, r, f1, b1, f2, b2, rfl, rfl⟩)⟩
    · omega
    · have := m3 (az_b Z 9 p) hlt
      rw [if_neg (by omega), hz] at this
      cases this
    · skip
      show pm_W _ _ _ _ _ _ _ _ _ _ _ _ _ [.ref t] _
      refine pm_astn dX6_deliver_17 (i := 3) rfl (by decide) ?_
      dsimp only [List.set]
      refine pm_aload_n dX6_deliver_18 rfl ?_
      refine pm_ifnonnull_r (tgt := 24) dX6_deliver_19 (by decide) ?_
      have f3 : pm_k S r = 0 := by by_cases e : r = t; rw [e]; exact f1; rw [pm_k_nw, if_neg e] at f2; exact f2
      have ntr : t ≠ r := fun e => by rw [← e, pm_k_nw, if_pos rfl] at f2; cases f2
      have hN := h.newrow hn hp (by omega) f1 f3 ntr
      have hle : yLe (az_a Z 0) Y (yRow Y p t r) := yLe_row (by omega) (by omega)
      have ek : (yRow Y p t r).2.1 p = az_b Z 9 p + 1 := (if_pos rfl).trans (by rw [ekm])
      have epk : (yRow Y p t r).2.2 p (az_b Z 9 p) = az_b Z 9 p := (if_pos ⟨rfl, ekm.symm⟩).trans ekm
      have e30 : (yRow Y p t r).1 (pq p (30 + az_b Z 9 p)) = t := if_pos (by rw [ekm])
      obtain ⟨q1, q2, q3, q4, q5, q6⟩ := hN.2.2.2.2.2.2.2.2.2.2.2.2.2.1 p hp
      obtain ⟨-, w0, hw0⟩ := q4 (az_b Z 9 p) (by omega)
      have hC := (hN.tz (p := p) (k := az_b Z 9 p) (w := w0) (Nat.le_refl _)).b (p := p) (f := 1) (v := az_b Z 9 p + 1) hn hp rfl (h9 := fun _ => ⟨by omega, fun k hk => by
        rw [z_t_t]
        by_cases e : k = az_b Z 9 p
        · rw [if_pos ⟨rfl, rfl, e⟩, e]; exact hw0
        · rw [if_neg (fun z => e z.2.2)]; exact q6 k (by omega)⟩)
      have nt1 : t2 ≠ t := fun e => by have := ht.1.1; rw [e, f1] at this; cases this
      have nt2 : t2 ≠ r := fun e => by have := ht.1.1; rw [e, f3] at this; cases this
      have nr1 : r2 ≠ t := fun e => by have := ht.1.2.2.1; rw [e, f1] at this; cases this
      have nr2 : r2 ≠ r := fun e => by have := ht.1.2.2.1; rw [e, f3] at this; cases this
      have htm := (ht.mv (sRow_e7 (a := Y.1 (pq p 5)) (k := Y.2.1 p) nt1 nt2) (sRow_e7 (a := Y.1 (pq p 5)) (k := Y.2.1 p) nr1 nr2)).si (f := 1) (a := (yRow Y p t r).1 (pq p 4)) (v := nI (az_b Z 9 p + 1)) (by decide)
      rw [hle.p hp (by omega), ekm] at hC
      rw [hle.p hp (by omega), ekm] at htm
      exact tail ⟨h9, hlt⟩ (yRow Y p t r) _ w0 t _ hle (by omega) (by rw [epk, e30]) rfl hC htm (fun q hq => by
        rw [z_b_b]
        by_cases e : q = p
        · rw [if_pos ⟨rfl, e⟩, e, ek]; have := hmk p hp; omega
        · rw [if_neg (fun z => e z.2)]; exact (if_neg e).trans (hmk q hq))
  · skip
    have h9 : az_b Z 1 p = 2 := (pm_e2 (hsm p hp 1 (by decide))).mp h5
    refine pm_iconst (v := 0) dX6_deliver_8 (by decide) ?_
    
    subst hQ9
    refine pm_zret dX6_deliver_9 (by first | exact Or.inl rfl | exact Or.inr rfl | assumption) ?_
    exact ⟨Y, yLe.rf, by rw [zComes, if_neg (fun z => z.1 h9)]; exact hx, by rw [if_neg (fun z => z.1 h9)]⟩

theorem zComes_n (Z : az) (p : Nat) (w : List Int32) : az_a (zComes Z p w) 0 = az_a Z 0 := by
  unfold zComes
  split
  · dsimp only
    split <;> rfl
  · rfl
theorem zComes_12 (Z : az) (p : Nat) (w : List Int32) (q : Nat) : az_b (zComes Z p w) 12 q = if az_b Z 1 p ≠ 2 ∧ az_b Z 9 p < 40 ∧ q = p then max (az_b Z 12 p) (az_b Z 9 p + 1) else az_b Z 12 q := by
  unfold zComes
  by_cases h : az_b Z 1 p ≠ 2 ∧ az_b Z 9 p < 40
  · rw [if_pos h]
    dsimp only
    have e : ∀ W : az, az_b (zReady W p (az_b Z 3 p)) 12 q = az_b W 12 q := fun W => by
      unfold zReady zTurn
      rw [z_b_a, z_b_bne (by decide), z_b_e, z_b_bne (by decide), z_b_bne (by decide)]
    split
    · rw [e, z_b_a, z_b_b]
      by_cases e2 : q = p
      · rw [if_pos ⟨rfl, e2⟩, if_pos ⟨h.1, h.2, e2⟩]
      · rw [if_neg (fun z => e2 z.2), if_neg (fun z => e2 z.2.2), z_b_bne (by decide), z_b_t]
    · rw [z_b_a, z_b_b]
      by_cases e2 : q = p
      · rw [if_pos ⟨rfl, e2⟩, if_pos ⟨h.1, h.2, e2⟩]
      · rw [if_neg (fun z => e2 z.2), if_neg (fun z => e2 z.2.2), z_b_bne (by decide), z_b_t]
  · rw [if_neg h, if_neg (fun z => h ⟨z.1, z.2.1⟩)]
/-- a message costs a row where the mailbox has none for it -/
theorem zComes_U {Z : az} {p : Nat} {w : List Int32} (hp : p < az_a Z 0) : zU (zComes Z p w) = zU Z + (if az_b Z 1 p ≠ 2 ∧ az_b Z 9 p < 40 then 2 * (max (az_b Z 12 p) (az_b Z 9 p + 1) - az_b Z 12 p) else 0) := by
  by_cases h : az_b Z 1 p ≠ 2 ∧ az_b Z 9 p < 40
  · rw [if_pos h]
    unfold zU
    rw [zComes_n]
    exact zUk_set (p := p) (v := max (az_b Z 12 p) (az_b Z 9 p + 1) - az_b Z 12 p) (by rw [zComes_12, if_pos ⟨h.1, h.2, rfl⟩]; omega) (fun q hq => by rw [zComes_12, if_neg (fun z => hq z.2.2)]) _ hp
  · rw [if_neg h]
    exact zU_eq (zComes_n Z p w) (fun q _ => by rw [zComes_12, if_neg (fun z => h ⟨z.1, z.2.1⟩)])
set_option maxHeartbeats 4000000 in
theorem c_X6_deliver (G : pm_G) (l : Launch) (bs : Nat) (Z : az) (Y : pm_Y) (E : pm_S) (p t2 r2 : Nat) (w : List Int32) (S : pm_S) (hx : pm_CX Z S Y E) (hn : az_a Z 0 ≤ 60) (hp : p < az_a Z 0) (hsm : zSm Z) (h9 : az_b Z 9 p ≤ az_b Z 12 p) (ht : pm_tm S t2 r2 w) : pm_M G l bs yX6_deliver cX6_deliver 4 (some .boolean) 3 (zU (zComes Z p w) - zU Z) (49 * (zU (zComes Z p w) - zU Z)) [.ref (Y.1 0), .ref (Y.1 (pq p 0)), .ref t2] S (pm_qi (fun x S2 => ∃ Y2, yLe (az_a Z 0) Y Y2 ∧ pm_CX (zComes Z p w) S2 Y2 E ∧ x = (if az_b Z 1 p ≠ 2 ∧ az_b Z 9 p < 40 then 1 else 0))) := by
  have hm := hx.2 p hp
  rw [zComes_U hp]
  by_cases h : az_b Z 1 p ≠ 2 ∧ az_b Z 9 p < 40
  · rw [if_pos h]
    by_cases h2 : az_b Z 9 p < az_b Z 12 p
    · rw [show zU Z + 2 * (max (az_b Z 12 p) (az_b Z 9 p + 1) - az_b Z 12 p) - zU Z = 0 by omega]
      exact c_X6_deliver0 G l bs Z Y E p t2 r2 w S hx hn hp hsm ht (fun _ _ => by omega)
    · rw [show zU Z + 2 * (max (az_b Z 12 p) (az_b Z 9 p + 1) - az_b Z 12 p) - zU Z = 2 by omega]
      exact c_X6_deliver1 G l bs Z Y E p t2 r2 w S hx hn hp hsm ht h.2 (by omega)
  · rw [if_neg h, show zU Z + 0 - zU Z = 0 by omega]
    exact c_X6_deliver0 G l bs Z Y E p t2 r2 w S hx hn hp hsm ht (fun h1 h2 => absurd ⟨h1, h2⟩ h)
