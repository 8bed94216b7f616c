/-! the reference: simple words -/
theorem mR.G {b : Nat} {Z : az} {M : pm_N} {p j : Nat} (h : mR b Z M) (hp : p < az_a Z 0) (hj : j < 8) : sl M (8 * p + j) (az_t Z 0 p j) := (h.2.2.2.2.2.2.2.2.2.2.1 p hp).1 j hj
theorem slK {M : pm_N} {t n : Nat} {w : List Int32} (h : sl M t w) (hw : tW n w) : (M.1 0 (95 * t) = 0 ↔ zKind w = 0) ∧ (M.1 0 (95 * t) = 1 ↔ zKind w = 1) ∧ (M.1 0 (95 * t) = 2 ↔ zKind w = 2) ∧ (M.1 0 (95 * t) = -1 ↔ zKind w = 3) := by
  have hl := hw.len
  have e0 : M.1 0 (95 * t) = w.getD 0 0 := h.2.2 0 (by omega)
  rw [e0]
  rcases hw.cases with ⟨k, v, rfl, hk, ht⟩ | ⟨r, rfl, -⟩
  · show (k = 0 ↔ pm_kd k = 0) ∧ (k = 1 ↔ pm_kd k = 1) ∧ (k = 2 ↔ pm_kd k = 2) ∧ (k = -1 ↔ pm_kd k = 3)
    rcases ht with rfl | ⟨rfl, -⟩ | ⟨rfl, -⟩ <;> decide
  · show ((-1 : Int32) = 0 ↔ pm_kd (-1) = 0) ∧ ((-1 : Int32) = 1 ↔ pm_kd (-1) = 1) ∧ ((-1 : Int32) = 2 ↔ pm_kd (-1) = 2) ∧ ((-1 : Int32) = -1 ↔ pm_kd (-1) = 3)
    decide
theorem slV {M : pm_N} {t n : Nat} {w : List Int32} (h : sl M t w) (hw : tW n w) : M.1 0 (95 * t + 1) = zVal w := h.2.2 1 (by have := hw.len; omega)
theorem slKr {M : pm_N} {t n : Nat} {w : List Int32} (h : sl M t w) (hw : tW n w) (h3 : ¬ zKind w = 3) : M.1 0 (95 * t) = zKind w := by
  have hl := hw.len
  have e0 : M.1 0 (95 * t) = w.getD 0 0 := h.2.2 0 (by omega)
  have q : ¬ w.getD 0 0 = -1 := fun z => h3 ((slK h hw).2.2.2.mp (e0.trans z))
  rw [e0]
  exact (if_neg q).symm
set_option maxHeartbeats 4000000 in
set_option maxRecDepth 100000 in
theorem c_X7_reckons4 (G : pm_G) (l : Launch) (bs : Nat) (A : Nat → Nat) (E : pm_S) (M : pm_N) (b : Nat) (Z : az) (s : Nat) (p ja jb jc : Nat) (S : pm_S) (hm : pm_MX M S A E) (hr : mR b Z M) (hI : zI s Z) (hp : p < az_a Z 0) (h0 : az_b Z 1 p = 0) (hja : ja < 8) (hjb : jb < 8) (hjc : jc < 8) : pm_M G l bs yX7_reckons cX7_reckons 8 none 5 0 0 [.ref (A 50), .int (nI p), .int 4, .int (nI (8 * p + ja)), .int (nI (8 * p + jb)), .int (nI (8 * p + jc))] S (pm_qv (fun S2 => ∃ M2, pm_MX M2 S2 A E ∧ mR b (if zKind (az_t Z 0 p jb) = 0 ∧ zKind (az_t Z 0 p jc) = 0 then zs_t Z 0 p ja [0, zVal (az_t Z 0 p jb) + zVal (az_t Z 0 p jc)] else zBad Z p) M2)) := by
  have hn := hI.1
  have hsm := hI.sm
  have h9b := hI.b9
  have h02 : az_b Z 1 p ≠ 2 := by omega
  have hsa := hr.G hp hja
  have hsb := hr.G hp hjb
  have hsc := hr.G hp hjc
  have hwa := hI.rg hp hja
  have hwb := hI.rg hp hjb
  have hwc := hI.rg hp hjc
  have hla := hwa.len
  have hlb := hwb.len
  have hlc := hwc.len
  refine pm_Mv (L := [.ref (A 50), .int (nI p), .int 4, .int (nI (8 * p + ja)), .int (nI (8 * p + jb)), .int (nI (8 * p + jc)), pm_u, pm_u]) false (by decide +kernel) (fun h => by cases h) rfl (pm_en_1 rfl (pm_en_1 rfl (pm_en_1 rfl (pm_en_1 rfl (pm_en_1 rfl (pm_en_1 rfl (pm_en_0 rfl))))))) ?_
  generalize hQ9 : pm_xv (fun S2 => ∃ M2, pm_MX M2 S2 A E ∧ mR b (if zKind (az_t Z 0 p jb) = 0 ∧ zKind (az_t Z 0 p jc) = 0 then zs_t Z 0 p ja [0, zVal (az_t Z 0 p jb) + zVal (az_t Z 0 p jc)] else zBad Z p) M2) = Q9
  refine pm_aload_n dX7_reckons_0 rfl ?_
  refine pm_iload_n dX7_reckons_1 rfl ?_
  refine pm_aload_n dX7_reckons_2 rfl ?_
  refine pm_iload dX7_reckons_3 rfl ?_
  refine pm_iconst (v := 0) dX7_reckons_5 (by decide) ?_
  refine pm_vi (c_X7_is G l bs A E M (8 * p + jb) 0 _ hm (by omega)) pm_y_X7_is pm_v_X7_is pm_m_X7_178 (c := 7) (r := (RX7, TX7, 41)) rfl rfl hm.1 dX7_reckons_6 rfl rfl (by decide) (Nat.le_of_ble_eq_true rfl) (fun x6 S6 h6 => ?_)
  obtain ⟨rfl, rfl⟩ := h6
  refine pm_if_eq (tgt := 22) dX7_reckons_9 (by decide) (fun h9 => ?_) (fun h9 => ?_)
  · skip
    have k1 : ¬ zKind (az_t Z 0 p jb) = 0 := fun z => by rw [if_pos ((slK hsb hwb).1.mpr z)] at h9; cases h9
    have k3 : ¬ (zKind (az_t Z 0 p jb) = 0 ∧ zKind (az_t Z 0 p jc) = 0) := fun z => k1 z.1
    refine pm_iconst (v := 1) dX7_reckons_22 (by decide) ?_
    refine pm_goto (tgt := 27) dX7_reckons_23 (by decide) ?_
    refine pm_vi (c_X7_bad G l bs A E M b Z s p _ _ hm hr hI hp h02 (by first | exact Or.inl rfl | exact Or.inr rfl)) pm_y_X7_bad pm_v_X7_bad pm_m_X7_202 (c := 7) (r := (RX7, TX7, 41)) rfl rfl hm.1 dX7_reckons_27 rfl rfl (by decide) (Nat.le_of_ble_eq_true rfl) (fun x27 S27 h27 => ?_)
    obtain ⟨rfl, h27b⟩ := h27
    refine pm_if_eq (tgt := 34) dX7_reckons_30 (by decide) (fun h30 => ?_) (fun h30 => ?_)
    · first
      | exact absurd h30 (by decide)
      | (skip
         rcases h27b with ⟨-, rfl⟩ | ⟨g0, -⟩
         case inr => exact absurd rfl g0
         refine pm_aload_n dX7_reckons_34 rfl ?_
         refine pm_iload dX7_reckons_35 rfl ?_
         refine pm_vi (c_X7_valueOf G l bs A E M (8 * p + jb) _ hm (by omega)) pm_y_X7_valueOf pm_v_X7_valueOf pm_m_X7_181 (c := 7) (r := (RX7, TX7, 41)) rfl rfl hm.1 dX7_reckons_37 rfl rfl (by decide) (Nat.le_of_ble_eq_true rfl) (fun x37 S37 h37 => ?_)
         obtain ⟨rfl, rfl⟩ := h37
         rw [slV hsb hwb]
         refine pm_istore dX7_reckons_40 (by decide) ?_
         dsimp only [List.set]
         refine pm_aload_n dX7_reckons_42 rfl ?_
         refine pm_iload dX7_reckons_43 rfl ?_
         refine pm_vi (c_X7_valueOf G l bs A E M (8 * p + jc) _ hm (by omega)) pm_y_X7_valueOf pm_v_X7_valueOf pm_m_X7_181 (c := 7) (r := (RX7, TX7, 41)) rfl rfl hm.1 dX7_reckons_45 rfl rfl (by decide) (Nat.le_of_ble_eq_true rfl) (fun x45 S45 h45 => ?_)
         obtain ⟨rfl, rfl⟩ := h45
         rw [slV hsc hwc]
         refine pm_istore dX7_reckons_48 (by decide) ?_
         dsimp only [List.set]
         refine pm_aload_n dX7_reckons_50 rfl ?_
         refine pm_iload_n dX7_reckons_51 rfl ?_
         refine pm_iconst (v := 0) dX7_reckons_52 (by decide) ?_
         refine pm_iload_n dX7_reckons_53 rfl ?_
         refine pm_iconst (v := 4) dX7_reckons_54 (by decide) ?_
         refine pm_icmp_ne (tgt := 66) dX7_reckons_55 (by decide) (fun h55 => ?_) (fun h55 => ?_)
         · exact absurd rfl h55
         · skip
           skip
           refine pm_iload dX7_reckons_58 rfl ?_
           refine pm_iload dX7_reckons_60 rfl ?_
           refine pm_iadd dX7_reckons_62 ?_
           refine pm_goto (tgt := 84) dX7_reckons_63 (by decide) ?_
           refine pm_vv (c_X7_set G l bs A E M (8 * p + ja) 0 (zVal (az_t Z 0 p jb) + zVal (az_t Z 0 p jc)) _ hm (by omega)) pm_y_X7_set pm_v_X7_set pm_m_X7_124 (c := 7) (r := (RX7, TX7, 41)) rfl rfl hm.1 dX7_reckons_84 rfl rfl (by decide) (Nat.le_of_ble_eq_true rfl) (fun S84 h84 => ?_)
           obtain ⟨M84, hm84, mt84, sl84⟩ := h84
           subst hQ9
           refine pm_vret dX7_reckons_87 ?_
           exact ⟨M84, hm84, by rw [if_pos k3]; exact hr.reg hn h9b hp hja mt84 sl84⟩)
    · first
      | exact absurd rfl h30
      | (skip
         rcases h27b with ⟨g0, -⟩ | ⟨-, M27, hm27, hr27⟩
         case inl => exact absurd g0 (by decide)
         subst hQ9
         refine pm_vret dX7_reckons_33 ?_
         exact ⟨M27, hm27, by rw [if_neg k3]; exact hr27⟩)
  · skip
    have k1 : zKind (az_t Z 0 p jb) = 0 := (slK hsb hwb).1.mp (Classical.byContradiction (fun z => h9 (if_neg z)))
    refine pm_aload_n dX7_reckons_12 rfl ?_
    refine pm_iload dX7_reckons_13 rfl ?_
    refine pm_iconst (v := 0) dX7_reckons_15 (by decide) ?_
    refine pm_vi (c_X7_is G l bs A E M (8 * p + jc) 0 _ hm (by omega)) pm_y_X7_is pm_v_X7_is pm_m_X7_178 (c := 7) (r := (RX7, TX7, 41)) rfl rfl hm.1 dX7_reckons_16 rfl rfl (by decide) (Nat.le_of_ble_eq_true rfl) (fun x16 S16 h16 => ?_)
    obtain ⟨rfl, rfl⟩ := h16
    refine pm_if_ne (tgt := 26) dX7_reckons_19 (by decide) (fun h19 => ?_) (fun h19 => ?_)
    · skip
      have k2 : zKind (az_t Z 0 p jc) = 0 := (slK hsc hwc).1.mp (Classical.byContradiction (fun z => h19 (if_neg z)))
      have k3 : zKind (az_t Z 0 p jb) = 0 ∧ zKind (az_t Z 0 p jc) = 0 := ⟨k1, k2⟩
      refine pm_iconst (v := 0) dX7_reckons_26 (by decide) ?_
      refine pm_vi (c_X7_bad G l bs A E M b Z s p _ _ hm hr hI hp h02 (by first | exact Or.inl rfl | exact Or.inr rfl)) pm_y_X7_bad pm_v_X7_bad pm_m_X7_202 (c := 7) (r := (RX7, TX7, 41)) rfl rfl hm.1 dX7_reckons_27 rfl rfl (by decide) (Nat.le_of_ble_eq_true rfl) (fun x27 S27 h27 => ?_)
      obtain ⟨rfl, h27b⟩ := h27
      refine pm_if_eq (tgt := 34) dX7_reckons_30 (by decide) (fun h30 => ?_) (fun h30 => ?_)
      · first
        | exact absurd h30 (by decide)
        | (skip
           rcases h27b with ⟨-, rfl⟩ | ⟨g0, -⟩
           case inr => exact absurd rfl g0
           refine pm_aload_n dX7_reckons_34 rfl ?_
           refine pm_iload dX7_reckons_35 rfl ?_
           refine pm_vi (c_X7_valueOf G l bs A E M (8 * p + jb) _ hm (by omega)) pm_y_X7_valueOf pm_v_X7_valueOf pm_m_X7_181 (c := 7) (r := (RX7, TX7, 41)) rfl rfl hm.1 dX7_reckons_37 rfl rfl (by decide) (Nat.le_of_ble_eq_true rfl) (fun x37 S37 h37 => ?_)
           obtain ⟨rfl, rfl⟩ := h37
           rw [slV hsb hwb]
           refine pm_istore dX7_reckons_40 (by decide) ?_
           dsimp only [List.set]
           refine pm_aload_n dX7_reckons_42 rfl ?_
           refine pm_iload dX7_reckons_43 rfl ?_
           refine pm_vi (c_X7_valueOf G l bs A E M (8 * p + jc) _ hm (by omega)) pm_y_X7_valueOf pm_v_X7_valueOf pm_m_X7_181 (c := 7) (r := (RX7, TX7, 41)) rfl rfl hm.1 dX7_reckons_45 rfl rfl (by decide) (Nat.le_of_ble_eq_true rfl) (fun x45 S45 h45 => ?_)
           obtain ⟨rfl, rfl⟩ := h45
           rw [slV hsc hwc]
           refine pm_istore dX7_reckons_48 (by decide) ?_
           dsimp only [List.set]
           refine pm_aload_n dX7_reckons_50 rfl ?_
           refine pm_iload_n dX7_reckons_51 rfl ?_
           refine pm_iconst (v := 0) dX7_reckons_52 (by decide) ?_
           refine pm_iload_n dX7_reckons_53 rfl ?_
           refine pm_iconst (v := 4) dX7_reckons_54 (by decide) ?_
           refine pm_icmp_ne (tgt := 66) dX7_reckons_55 (by decide) (fun h55 => ?_) (fun h55 => ?_)
           · exact absurd rfl h55
           · skip
             skip
             refine pm_iload dX7_reckons_58 rfl ?_
             refine pm_iload dX7_reckons_60 rfl ?_
             refine pm_iadd dX7_reckons_62 ?_
             refine pm_goto (tgt := 84) dX7_reckons_63 (by decide) ?_
             refine pm_vv (c_X7_set G l bs A E M (8 * p + ja) 0 (zVal (az_t Z 0 p jb) + zVal (az_t Z 0 p jc)) _ hm (by omega)) pm_y_X7_set pm_v_X7_set pm_m_X7_124 (c := 7) (r := (RX7, TX7, 41)) rfl rfl hm.1 dX7_reckons_84 rfl rfl (by decide) (Nat.le_of_ble_eq_true rfl) (fun S84 h84 => ?_)
             obtain ⟨M84, hm84, mt84, sl84⟩ := h84
             subst hQ9
             refine pm_vret dX7_reckons_87 ?_
             exact ⟨M84, hm84, by rw [if_pos k3]; exact hr.reg hn h9b hp hja mt84 sl84⟩)
      · first
        | exact absurd rfl h30
        | (skip
           rcases h27b with ⟨g0, -⟩ | ⟨-, M27, hm27, hr27⟩
           case inl => exact absurd g0 (by decide)
           subst hQ9
           refine pm_vret dX7_reckons_33 ?_
           exact ⟨M27, hm27, by rw [if_neg k3]; exact hr27⟩)
    · skip
      have k2 : ¬ zKind (az_t Z 0 p jc) = 0 := fun z => by rw [if_pos ((slK hsc hwc).1.mpr z)] at h19; cases h19
      have k3 : ¬ (zKind (az_t Z 0 p jb) = 0 ∧ zKind (az_t Z 0 p jc) = 0) := fun z => k2 z.2
      refine pm_iconst (v := 1) dX7_reckons_22 (by decide) ?_
      refine pm_goto (tgt := 27) dX7_reckons_23 (by decide) ?_
      refine pm_vi (c_X7_bad G l bs A E M b Z s p _ _ hm hr hI hp h02 (by first | exact Or.inl rfl | exact Or.inr rfl)) pm_y_X7_bad pm_v_X7_bad pm_m_X7_202 (c := 7) (r := (RX7, TX7, 41)) rfl rfl hm.1 dX7_reckons_27 rfl rfl (by decide) (Nat.le_of_ble_eq_true rfl) (fun x27 S27 h27 => ?_)
      obtain ⟨rfl, h27b⟩ := h27
      refine pm_if_eq (tgt := 34) dX7_reckons_30 (by decide) (fun h30 => ?_) (fun h30 => ?_)
      · first
        | exact absurd h30 (by decide)
        | (skip
           rcases h27b with ⟨-, rfl⟩ | ⟨g0, -⟩
           case inr => exact absurd rfl g0
           refine pm_aload_n dX7_reckons_34 rfl ?_
           refine pm_iload dX7_reckons_35 rfl ?_
           refine pm_vi (c_X7_valueOf G l bs A E M (8 * p + jb) _ hm (by omega)) pm_y_X7_valueOf pm_v_X7_valueOf pm_m_X7_181 (c := 7) (r := (RX7, TX7, 41)) rfl rfl hm.1 dX7_reckons_37 rfl rfl (by decide) (Nat.le_of_ble_eq_true rfl) (fun x37 S37 h37 => ?_)
           obtain ⟨rfl, rfl⟩ := h37
           rw [slV hsb hwb]
           refine pm_istore dX7_reckons_40 (by decide) ?_
           dsimp only [List.set]
           refine pm_aload_n dX7_reckons_42 rfl ?_
           refine pm_iload dX7_reckons_43 rfl ?_
           refine pm_vi (c_X7_valueOf G l bs A E M (8 * p + jc) _ hm (by omega)) pm_y_X7_valueOf pm_v_X7_valueOf pm_m_X7_181 (c := 7) (r := (RX7, TX7, 41)) rfl rfl hm.1 dX7_reckons_45 rfl rfl (by decide) (Nat.le_of_ble_eq_true rfl) (fun x45 S45 h45 => ?_)
           obtain ⟨rfl, rfl⟩ := h45
           rw [slV hsc hwc]
           refine pm_istore dX7_reckons_48 (by decide) ?_
           dsimp only [List.set]
           refine pm_aload_n dX7_reckons_50 rfl ?_
           refine pm_iload_n dX7_reckons_51 rfl ?_
           refine pm_iconst (v := 0) dX7_reckons_52 (by decide) ?_
           refine pm_iload_n dX7_reckons_53 rfl ?_
           refine pm_iconst (v := 4) dX7_reckons_54 (by decide) ?_
           refine pm_icmp_ne (tgt := 66) dX7_reckons_55 (by decide) (fun h55 => ?_) (fun h55 => ?_)
           · exact absurd rfl h55
           · skip
             skip
             refine pm_iload dX7_reckons_58 rfl ?_
             refine pm_iload dX7_reckons_60 rfl ?_
             refine pm_iadd dX7_reckons_62 ?_
             refine pm_goto (tgt := 84) dX7_reckons_63 (by decide) ?_
             refine pm_vv (c_X7_set G l bs A E M (8 * p + ja) 0 (zVal (az_t Z 0 p jb) + zVal (az_t Z 0 p jc)) _ hm (by omega)) pm_y_X7_set pm_v_X7_set pm_m_X7_124 (c := 7) (r := (RX7, TX7, 41)) rfl rfl hm.1 dX7_reckons_84 rfl rfl (by decide) (Nat.le_of_ble_eq_true rfl) (fun S84 h84 => ?_)
             obtain ⟨M84, hm84, mt84, sl84⟩ := h84
             subst hQ9
             refine pm_vret dX7_reckons_87 ?_
             exact ⟨M84, hm84, by rw [if_pos k3]; exact hr.reg hn h9b hp hja mt84 sl84⟩)
      · first
        | exact absurd rfl h30
        | (skip
           rcases h27b with ⟨g0, -⟩ | ⟨-, M27, hm27, hr27⟩
           case inl => exact absurd g0 (by decide)
           subst hQ9
           refine pm_vret dX7_reckons_33 ?_
           exact ⟨M27, hm27, by rw [if_neg k3]; exact hr27⟩)

set_option maxHeartbeats 4000000 in
set_option maxRecDepth 100000 in
theorem c_X7_reckons5 (G : pm_G) (l : Launch) (bs : Nat) (A : Nat → Nat) (E : pm_S) (M : pm_N) (b : Nat) (Z : az) (s : Nat) (p ja jb jc : Nat) (S : pm_S) (hm : pm_MX M S A E) (hr : mR b Z M) (hI : zI s Z) (hp : p < az_a Z 0) (h0 : az_b Z 1 p = 0) (hja : ja < 8) (hjb : jb < 8) (hjc : jc < 8) : pm_M G l bs yX7_reckons cX7_reckons 8 none 5 0 0 [.ref (A 50), .int (nI p), .int 5, .int (nI (8 * p + ja)), .int (nI (8 * p + jb)), .int (nI (8 * p + jc))] S (pm_qv (fun S2 => ∃ M2, pm_MX M2 S2 A E ∧ mR b (if zKind (az_t Z 0 p jb) = 0 ∧ zKind (az_t Z 0 p jc) = 0 then zs_t Z 0 p ja [0, zVal (az_t Z 0 p jb) - zVal (az_t Z 0 p jc)] else zBad Z p) M2)) := by
  have hn := hI.1
  have hsm := hI.sm
  have h9b := hI.b9
  have h02 : az_b Z 1 p ≠ 2 := by omega
  have hsa := hr.G hp hja
  have hsb := hr.G hp hjb
  have hsc := hr.G hp hjc
  have hwa := hI.rg hp hja
  have hwb := hI.rg hp hjb
  have hwc := hI.rg hp hjc
  have hla := hwa.len
  have hlb := hwb.len
  have hlc := hwc.len
  refine pm_Mv (L := [.ref (A 50), .int (nI p), .int 5, .int (nI (8 * p + ja)), .int (nI (8 * p + jb)), .int (nI (8 * p + jc)), pm_u, pm_u]) false (by decide +kernel) (fun h => by cases h) rfl (pm_en_1 rfl (pm_en_1 rfl (pm_en_1 rfl (pm_en_1 rfl (pm_en_1 rfl (pm_en_1 rfl (pm_en_0 rfl))))))) ?_
  generalize hQ9 : pm_xv (fun S2 => ∃ M2, pm_MX M2 S2 A E ∧ mR b (if zKind (az_t Z 0 p jb) = 0 ∧ zKind (az_t Z 0 p jc) = 0 then zs_t Z 0 p ja [0, zVal (az_t Z 0 p jb) - zVal (az_t Z 0 p jc)] else zBad Z p) M2) = Q9
  refine pm_aload_n dX7_reckons_0 rfl ?_
  refine pm_iload_n dX7_reckons_1 rfl ?_
  refine pm_aload_n dX7_reckons_2 rfl ?_
  refine pm_iload dX7_reckons_3 rfl ?_
  refine pm_iconst (v := 0) dX7_reckons_5 (by decide) ?_
  refine pm_vi (c_X7_is G l bs A E M (8 * p + jb) 0 _ hm (by omega)) pm_y_X7_is pm_v_X7_is pm_m_X7_178 (c := 7) (r := (RX7, TX7, 41)) rfl rfl hm.1 dX7_reckons_6 rfl rfl (by decide) (Nat.le_of_ble_eq_true rfl) (fun x6 S6 h6 => ?_)
  obtain ⟨rfl, rfl⟩ := h6
  refine pm_if_eq (tgt := 22) dX7_reckons_9 (by decide) (fun h9 => ?_) (fun h9 => ?_)
  · skip
    have k1 : ¬ zKind (az_t Z 0 p jb) = 0 := fun z => by rw [if_pos ((slK hsb hwb).1.mpr z)] at h9; cases h9
    have k3 : ¬ (zKind (az_t Z 0 p jb) = 0 ∧ zKind (az_t Z 0 p jc) = 0) := fun z => k1 z.1
    refine pm_iconst (v := 1) dX7_reckons_22 (by decide) ?_
    refine pm_goto (tgt := 27) dX7_reckons_23 (by decide) ?_
    refine pm_vi (c_X7_bad G l bs A E M b Z s p _ _ hm hr hI hp h02 (by first | exact Or.inl rfl | exact Or.inr rfl)) pm_y_X7_bad pm_v_X7_bad pm_m_X7_202 (c := 7) (r := (RX7, TX7, 41)) rfl rfl hm.1 dX7_reckons_27 rfl rfl (by decide) (Nat.le_of_ble_eq_true rfl) (fun x27 S27 h27 => ?_)
    obtain ⟨rfl, h27b⟩ := h27
    refine pm_if_eq (tgt := 34) dX7_reckons_30 (by decide) (fun h30 => ?_) (fun h30 => ?_)
    · first
      | exact absurd h30 (by decide)
      | (skip
         rcases h27b with ⟨-, rfl⟩ | ⟨g0, -⟩
         case inr => exact absurd rfl g0
         refine pm_aload_n dX7_reckons_34 rfl ?_
         refine pm_iload dX7_reckons_35 rfl ?_
         refine pm_vi (c_X7_valueOf G l bs A E M (8 * p + jb) _ hm (by omega)) pm_y_X7_valueOf pm_v_X7_valueOf pm_m_X7_181 (c := 7) (r := (RX7, TX7, 41)) rfl rfl hm.1 dX7_reckons_37 rfl rfl (by decide) (Nat.le_of_ble_eq_true rfl) (fun x37 S37 h37 => ?_)
         obtain ⟨rfl, rfl⟩ := h37
         rw [slV hsb hwb]
         refine pm_istore dX7_reckons_40 (by decide) ?_
         dsimp only [List.set]
         refine pm_aload_n dX7_reckons_42 rfl ?_
         refine pm_iload dX7_reckons_43 rfl ?_
         refine pm_vi (c_X7_valueOf G l bs A E M (8 * p + jc) _ hm (by omega)) pm_y_X7_valueOf pm_v_X7_valueOf pm_m_X7_181 (c := 7) (r := (RX7, TX7, 41)) rfl rfl hm.1 dX7_reckons_45 rfl rfl (by decide) (Nat.le_of_ble_eq_true rfl) (fun x45 S45 h45 => ?_)
         obtain ⟨rfl, rfl⟩ := h45
         rw [slV hsc hwc]
         refine pm_istore dX7_reckons_48 (by decide) ?_
         dsimp only [List.set]
         refine pm_aload_n dX7_reckons_50 rfl ?_
         refine pm_iload_n dX7_reckons_51 rfl ?_
         refine pm_iconst (v := 0) dX7_reckons_52 (by decide) ?_
         refine pm_iload_n dX7_reckons_53 rfl ?_
         refine pm_iconst (v := 4) dX7_reckons_54 (by decide) ?_
         refine pm_icmp_ne (tgt := 66) dX7_reckons_55 (by decide) (fun h55 => ?_) (fun h55 => ?_)
         · skip
           skip
           refine pm_iload_n dX7_reckons_66 rfl ?_
           refine pm_iconst (v := 5) dX7_reckons_67 (by decide) ?_
           refine pm_icmp_ne (tgt := 79) dX7_reckons_68 (by decide) (fun h68 => ?_) (fun h68 => ?_)
           · exact absurd rfl h68
           · skip
             skip
             refine pm_iload dX7_reckons_71 rfl ?_
             refine pm_iload dX7_reckons_73 rfl ?_
             refine pm_isub dX7_reckons_75 ?_
             refine pm_goto (tgt := 84) dX7_reckons_76 (by decide) ?_
             refine pm_vv (c_X7_set G l bs A E M (8 * p + ja) 0 (zVal (az_t Z 0 p jb) - zVal (az_t Z 0 p jc)) _ hm (by omega)) pm_y_X7_set pm_v_X7_set pm_m_X7_124 (c := 7) (r := (RX7, TX7, 41)) rfl rfl hm.1 dX7_reckons_84 rfl rfl (by decide) (Nat.le_of_ble_eq_true rfl) (fun S84 h84 => ?_)
             obtain ⟨M84, hm84, mt84, sl84⟩ := h84
             subst hQ9
             refine pm_vret dX7_reckons_87 ?_
             exact ⟨M84, hm84, by rw [if_pos k3]; exact hr.reg hn h9b hp hja mt84 sl84⟩
         · exact absurd h55 (by decide))
    · first
      | exact absurd rfl h30
      | (skip
         rcases h27b with ⟨g0, -⟩ | ⟨-, M27, hm27, hr27⟩
         case inl => exact absurd g0 (by decide)
         subst hQ9
         refine pm_vret dX7_reckons_33 ?_
         exact ⟨M27, hm27, by rw [if_neg k3]; exact hr27⟩)
  · skip
    have k1 : zKind (az_t Z 0 p jb) = 0 := (slK hsb hwb).1.mp (Classical.byContradiction (fun z => h9 (if_neg z)))
    refine pm_aload_n dX7_reckons_12 rfl ?_
    refine pm_iload dX7_reckons_13 rfl ?_
    refine pm_iconst (v := 0) dX7_reckons_15 (by decide) ?_
    refine pm_vi (c_X7_is G l bs A E M (8 * p + jc) 0 _ hm (by omega)) pm_y_X7_is pm_v_X7_is pm_m_X7_178 (c := 7) (r := (RX7, TX7, 41)) rfl rfl hm.1 dX7_reckons_16 rfl rfl (by decide) (Nat.le_of_ble_eq_true rfl) (fun x16 S16 h16 => ?_)
    obtain ⟨rfl, rfl⟩ := h16
    refine pm_if_ne (tgt := 26) dX7_reckons_19 (by decide) (fun h19 => ?_) (fun h19 => ?_)
    · skip
      have k2 : zKind (az_t Z 0 p jc) = 0 := (slK hsc hwc).1.mp (Classical.byContradiction (fun z => h19 (if_neg z)))
      have k3 : zKind (az_t Z 0 p jb) = 0 ∧ zKind (az_t Z 0 p jc) = 0 := ⟨k1, k2⟩
      refine pm_iconst (v := 0) dX7_reckons_26 (by decide) ?_
      refine pm_vi (c_X7_bad G l bs A E M b Z s p _ _ hm hr hI hp h02 (by first | exact Or.inl rfl | exact Or.inr rfl)) pm_y_X7_bad pm_v_X7_bad pm_m_X7_202 (c := 7) (r := (RX7, TX7, 41)) rfl rfl hm.1 dX7_reckons_27 rfl rfl (by decide) (Nat.le_of_ble_eq_true rfl) (fun x27 S27 h27 => ?_)
      obtain ⟨rfl, h27b⟩ := h27
      refine pm_if_eq (tgt := 34) dX7_reckons_30 (by decide) (fun h30 => ?_) (fun h30 => ?_)
      · first
        | exact absurd h30 (by decide)
        | (skip
           rcases h27b with ⟨-, rfl⟩ | ⟨g0, -⟩
           case inr => exact absurd rfl g0
           refine pm_aload_n dX7_reckons_34 rfl ?_
           refine pm_iload dX7_reckons_35 rfl ?_
           refine pm_vi (c_X7_valueOf G l bs A E M (8 * p + jb) _ hm (by omega)) pm_y_X7_valueOf pm_v_X7_valueOf pm_m_X7_181 (c := 7) (r := (RX7, TX7, 41)) rfl rfl hm.1 dX7_reckons_37 rfl rfl (by decide) (Nat.le_of_ble_eq_true rfl) (fun x37 S37 h37 => ?_)
           obtain ⟨rfl, rfl⟩ := h37
           rw [slV hsb hwb]
           refine pm_istore dX7_reckons_40 (by decide) ?_
           dsimp only [List.set]
           refine pm_aload_n dX7_reckons_42 rfl ?_
           refine pm_iload dX7_reckons_43 rfl ?_
           refine pm_vi (c_X7_valueOf G l bs A E M (8 * p + jc) _ hm (by omega)) pm_y_X7_valueOf pm_v_X7_valueOf pm_m_X7_181 (c := 7) (r := (RX7, TX7, 41)) rfl rfl hm.1 dX7_reckons_45 rfl rfl (by decide) (Nat.le_of_ble_eq_true rfl) (fun x45 S45 h45 => ?_)
           obtain ⟨rfl, rfl⟩ := h45
           rw [slV hsc hwc]
           refine pm_istore dX7_reckons_48 (by decide) ?_
           dsimp only [List.set]
           refine pm_aload_n dX7_reckons_50 rfl ?_
           refine pm_iload_n dX7_reckons_51 rfl ?_
           refine pm_iconst (v := 0) dX7_reckons_52 (by decide) ?_
           refine pm_iload_n dX7_reckons_53 rfl ?_
           refine pm_iconst (v := 4) dX7_reckons_54 (by decide) ?_
           refine pm_icmp_ne (tgt := 66) dX7_reckons_55 (by decide) (fun h55 => ?_) (fun h55 => ?_)
           · skip
             skip
             refine pm_iload_n dX7_reckons_66 rfl ?_
             refine pm_iconst (v := 5) dX7_reckons_67 (by decide) ?_
             refine pm_icmp_ne (tgt := 79) dX7_reckons_68 (by decide) (fun h68 => ?_) (fun h68 => ?_)
             · exact absurd rfl h68
             · skip
               skip
               refine pm_iload dX7_reckons_71 rfl ?_
               refine pm_iload dX7_reckons_73 rfl ?_
               refine pm_isub dX7_reckons_75 ?_
               refine pm_goto (tgt := 84) dX7_reckons_76 (by decide) ?_
               refine pm_vv (c_X7_set G l bs A E M (8 * p + ja) 0 (zVal (az_t Z 0 p jb) - zVal (az_t Z 0 p jc)) _ hm (by omega)) pm_y_X7_set pm_v_X7_set pm_m_X7_124 (c := 7) (r := (RX7, TX7, 41)) rfl rfl hm.1 dX7_reckons_84 rfl rfl (by decide) (Nat.le_of_ble_eq_true rfl) (fun S84 h84 => ?_)
               obtain ⟨M84, hm84, mt84, sl84⟩ := h84
               subst hQ9
               refine pm_vret dX7_reckons_87 ?_
               exact ⟨M84, hm84, by rw [if_pos k3]; exact hr.reg hn h9b hp hja mt84 sl84⟩
           · exact absurd h55 (by decide))
      · first
        | exact absurd rfl h30
        | (skip
           rcases h27b with ⟨g0, -⟩ | ⟨-, M27, hm27, hr27⟩
           case inl => exact absurd g0 (by decide)
           subst hQ9
           refine pm_vret dX7_reckons_33 ?_
           exact ⟨M27, hm27, by rw [if_neg k3]; exact hr27⟩)
    · skip
      have k2 : ¬ zKind (az_t Z 0 p jc) = 0 := fun z => by rw [if_pos ((slK hsc hwc).1.mpr z)] at h19; cases h19
      have k3 : ¬ (zKind (az_t Z 0 p jb) = 0 ∧ zKind (az_t Z 0 p jc) = 0) := fun z => k2 z.2
      refine pm_iconst (v := 1) dX7_reckons_22 (by decide) ?_
      refine pm_goto (tgt := 27) dX7_reckons_23 (by decide) ?_
      refine pm_vi (c_X7_bad G l bs A E M b Z s p _ _ hm hr hI hp h02 (by first | exact Or.inl rfl | exact Or.inr rfl)) pm_y_X7_bad pm_v_X7_bad pm_m_X7_202 (c := 7) (r := (RX7, TX7, 41)) rfl rfl hm.1 dX7_reckons_27 rfl rfl (by decide) (Nat.le_of_ble_eq_true rfl) (fun x27 S27 h27 => ?_)
      obtain ⟨rfl, h27b⟩ := h27
      refine pm_if_eq (tgt := 34) dX7_reckons_30 (by decide) (fun h30 => ?_) (fun h30 => ?_)
      · first
        | exact absurd h30 (by decide)
        | (skip
           rcases h27b with ⟨-, rfl⟩ | ⟨g0, -⟩
           case inr => exact absurd rfl g0
           refine pm_aload_n dX7_reckons_34 rfl ?_
           refine pm_iload dX7_reckons_35 rfl ?_
           refine pm_vi (c_X7_valueOf G l bs A E M (8 * p + jb) _ hm (by omega)) pm_y_X7_valueOf pm_v_X7_valueOf pm_m_X7_181 (c := 7) (r := (RX7, TX7, 41)) rfl rfl hm.1 dX7_reckons_37 rfl rfl (by decide) (Nat.le_of_ble_eq_true rfl) (fun x37 S37 h37 => ?_)
           obtain ⟨rfl, rfl⟩ := h37
           rw [slV hsb hwb]
           refine pm_istore dX7_reckons_40 (by decide) ?_
           dsimp only [List.set]
           refine pm_aload_n dX7_reckons_42 rfl ?_
           refine pm_iload dX7_reckons_43 rfl ?_
           refine pm_vi (c_X7_valueOf G l bs A E M (8 * p + jc) _ hm (by omega)) pm_y_X7_valueOf pm_v_X7_valueOf pm_m_X7_181 (c := 7) (r := (RX7, TX7, 41)) rfl rfl hm.1 dX7_reckons_45 rfl rfl (by decide) (Nat.le_of_ble_eq_true rfl) (fun x45 S45 h45 => ?_)
           obtain ⟨rfl, rfl⟩ := h45
           rw [slV hsc hwc]
           refine pm_istore dX7_reckons_48 (by decide) ?_
           dsimp only [List.set]
           refine pm_aload_n dX7_reckons_50 rfl ?_
           refine pm_iload_n dX7_reckons_51 rfl ?_
           refine pm_iconst (v := 0) dX7_reckons_52 (by decide) ?_
           refine pm_iload_n dX7_reckons_53 rfl ?_
           refine pm_iconst (v := 4) dX7_reckons_54 (by decide) ?_
           refine pm_icmp_ne (tgt := 66) dX7_reckons_55 (by decide) (fun h55 => ?_) (fun h55 => ?_)
           · skip
             skip
             refine pm_iload_n dX7_reckons_66 rfl ?_
             refine pm_iconst (v := 5) dX7_reckons_67 (by decide) ?_
             refine pm_icmp_ne (tgt := 79) dX7_reckons_68 (by decide) (fun h68 => ?_) (fun h68 => ?_)
             · exact absurd rfl h68
             · skip
               skip
               refine pm_iload dX7_reckons_71 rfl ?_
               refine pm_iload dX7_reckons_73 rfl ?_
               refine pm_isub dX7_reckons_75 ?_
               refine pm_goto (tgt := 84) dX7_reckons_76 (by decide) ?_
               refine pm_vv (c_X7_set G l bs A E M (8 * p + ja) 0 (zVal (az_t Z 0 p jb) - zVal (az_t Z 0 p jc)) _ hm (by omega)) pm_y_X7_set pm_v_X7_set pm_m_X7_124 (c := 7) (r := (RX7, TX7, 41)) rfl rfl hm.1 dX7_reckons_84 rfl rfl (by decide) (Nat.le_of_ble_eq_true rfl) (fun S84 h84 => ?_)
               obtain ⟨M84, hm84, mt84, sl84⟩ := h84
               subst hQ9
               refine pm_vret dX7_reckons_87 ?_
               exact ⟨M84, hm84, by rw [if_pos k3]; exact hr.reg hn h9b hp hja mt84 sl84⟩
           · exact absurd h55 (by decide))
      · first
        | exact absurd rfl h30
        | (skip
           rcases h27b with ⟨g0, -⟩ | ⟨-, M27, hm27, hr27⟩
           case inl => exact absurd g0 (by decide)
           subst hQ9
           refine pm_vret dX7_reckons_33 ?_
           exact ⟨M27, hm27, by rw [if_neg k3]; exact hr27⟩)

set_option maxHeartbeats 4000000 in
set_option maxRecDepth 100000 in
theorem c_X7_reckons6 (G : pm_G) (l : Launch) (bs : Nat) (A : Nat → Nat) (E : pm_S) (M : pm_N) (b : Nat) (Z : az) (s : Nat) (p ja jb jc : Nat) (S : pm_S) (hm : pm_MX M S A E) (hr : mR b Z M) (hI : zI s Z) (hp : p < az_a Z 0) (h0 : az_b Z 1 p = 0) (hja : ja < 8) (hjb : jb < 8) (hjc : jc < 8) : pm_M G l bs yX7_reckons cX7_reckons 8 none 5 0 0 [.ref (A 50), .int (nI p), .int 6, .int (nI (8 * p + ja)), .int (nI (8 * p + jb)), .int (nI (8 * p + jc))] S (pm_qv (fun S2 => ∃ M2, pm_MX M2 S2 A E ∧ mR b (if zKind (az_t Z 0 p jb) = 0 ∧ zKind (az_t Z 0 p jc) = 0 then zs_t Z 0 p ja [0, zVal (az_t Z 0 p jb) * zVal (az_t Z 0 p jc)] else zBad Z p) M2)) := by
  have hn := hI.1
  have hsm := hI.sm
  have h9b := hI.b9
  have h02 : az_b Z 1 p ≠ 2 := by omega
  have hsa := hr.G hp hja
  have hsb := hr.G hp hjb
  have hsc := hr.G hp hjc
  have hwa := hI.rg hp hja
  have hwb := hI.rg hp hjb
  have hwc := hI.rg hp hjc
  have hla := hwa.len
  have hlb := hwb.len
  have hlc := hwc.len
  refine pm_Mv (L := [.ref (A 50), .int (nI p), .int 6, .int (nI (8 * p + ja)), .int (nI (8 * p + jb)), .int (nI (8 * p + jc)), pm_u, pm_u]) false (by decide +kernel) (fun h => by cases h) rfl (pm_en_1 rfl (pm_en_1 rfl (pm_en_1 rfl (pm_en_1 rfl (pm_en_1 rfl (pm_en_1 rfl (pm_en_0 rfl))))))) ?_
  generalize hQ9 : pm_xv (fun S2 => ∃ M2, pm_MX M2 S2 A E ∧ mR b (if zKind (az_t Z 0 p jb) = 0 ∧ zKind (az_t Z 0 p jc) = 0 then zs_t Z 0 p ja [0, zVal (az_t Z 0 p jb) * zVal (az_t Z 0 p jc)] else zBad Z p) M2) = Q9
  refine pm_aload_n dX7_reckons_0 rfl ?_
  refine pm_iload_n dX7_reckons_1 rfl ?_
  refine pm_aload_n dX7_reckons_2 rfl ?_
  refine pm_iload dX7_reckons_3 rfl ?_
  refine pm_iconst (v := 0) dX7_reckons_5 (by decide) ?_
  refine pm_vi (c_X7_is G l bs A E M (8 * p + jb) 0 _ hm (by omega)) pm_y_X7_is pm_v_X7_is pm_m_X7_178 (c := 7) (r := (RX7, TX7, 41)) rfl rfl hm.1 dX7_reckons_6 rfl rfl (by decide) (Nat.le_of_ble_eq_true rfl) (fun x6 S6 h6 => ?_)
  obtain ⟨rfl, rfl⟩ := h6
  refine pm_if_eq (tgt := 22) dX7_reckons_9 (by decide) (fun h9 => ?_) (fun h9 => ?_)
  · skip
    have k1 : ¬ zKind (az_t Z 0 p jb) = 0 := fun z => by rw [if_pos ((slK hsb hwb).1.mpr z)] at h9; cases h9
    have k3 : ¬ (zKind (az_t Z 0 p jb) = 0 ∧ zKind (az_t Z 0 p jc) = 0) := fun z => k1 z.1
    refine pm_iconst (v := 1) dX7_reckons_22 (by decide) ?_
    refine pm_goto (tgt := 27) dX7_reckons_23 (by decide) ?_
    refine pm_vi (c_X7_bad G l bs A E M b Z s p _ _ hm hr hI hp h02 (by first | exact Or.inl rfl | exact Or.inr rfl)) pm_y_X7_bad pm_v_X7_bad pm_m_X7_202 (c := 7) (r := (RX7, TX7, 41)) rfl rfl hm.1 dX7_reckons_27 rfl rfl (by decide) (Nat.le_of_ble_eq_true rfl) (fun x27 S27 h27 => ?_)
    obtain ⟨rfl, h27b⟩ := h27
    refine pm_if_eq (tgt := 34) dX7_reckons_30 (by decide) (fun h30 => ?_) (fun h30 => ?_)
    · first
      | exact absurd h30 (by decide)
      | (skip
         rcases h27b with ⟨-, rfl⟩ | ⟨g0, -⟩
         case inr => exact absurd rfl g0
         refine pm_aload_n dX7_reckons_34 rfl ?_
         refine pm_iload dX7_reckons_35 rfl ?_
         refine pm_vi (c_X7_valueOf G l bs A E M (8 * p + jb) _ hm (by omega)) pm_y_X7_valueOf pm_v_X7_valueOf pm_m_X7_181 (c := 7) (r := (RX7, TX7, 41)) rfl rfl hm.1 dX7_reckons_37 rfl rfl (by decide) (Nat.le_of_ble_eq_true rfl) (fun x37 S37 h37 => ?_)
         obtain ⟨rfl, rfl⟩ := h37
         rw [slV hsb hwb]
         refine pm_istore dX7_reckons_40 (by decide) ?_
         dsimp only [List.set]
         refine pm_aload_n dX7_reckons_42 rfl ?_
         refine pm_iload dX7_reckons_43 rfl ?_
         refine pm_vi (c_X7_valueOf G l bs A E M (8 * p + jc) _ hm (by omega)) pm_y_X7_valueOf pm_v_X7_valueOf pm_m_X7_181 (c := 7) (r := (RX7, TX7, 41)) rfl rfl hm.1 dX7_reckons_45 rfl rfl (by decide) (Nat.le_of_ble_eq_true rfl) (fun x45 S45 h45 => ?_)
         obtain ⟨rfl, rfl⟩ := h45
         rw [slV hsc hwc]
         refine pm_istore dX7_reckons_48 (by decide) ?_
         dsimp only [List.set]
         refine pm_aload_n dX7_reckons_50 rfl ?_
         refine pm_iload_n dX7_reckons_51 rfl ?_
         refine pm_iconst (v := 0) dX7_reckons_52 (by decide) ?_
         refine pm_iload_n dX7_reckons_53 rfl ?_
         refine pm_iconst (v := 4) dX7_reckons_54 (by decide) ?_
         refine pm_icmp_ne (tgt := 66) dX7_reckons_55 (by decide) (fun h55 => ?_) (fun h55 => ?_)
         · skip
           skip
           refine pm_iload_n dX7_reckons_66 rfl ?_
           refine pm_iconst (v := 5) dX7_reckons_67 (by decide) ?_
           refine pm_icmp_ne (tgt := 79) dX7_reckons_68 (by decide) (fun h68 => ?_) (fun h68 => ?_)
           · skip
             skip
             refine pm_iload dX7_reckons_79 rfl ?_
             refine pm_iload dX7_reckons_81 rfl ?_
             refine pm_imul dX7_reckons_83 ?_
             refine pm_vv (c_X7_set G l bs A E M (8 * p + ja) 0 (zVal (az_t Z 0 p jb) * zVal (az_t Z 0 p jc)) _ hm (by omega)) pm_y_X7_set pm_v_X7_set pm_m_X7_124 (c := 7) (r := (RX7, TX7, 41)) rfl rfl hm.1 dX7_reckons_84 rfl rfl (by decide) (Nat.le_of_ble_eq_true rfl) (fun S84 h84 => ?_)
             obtain ⟨M84, hm84, mt84, sl84⟩ := h84
             subst hQ9
             refine pm_vret dX7_reckons_87 ?_
             exact ⟨M84, hm84, by rw [if_pos k3]; exact hr.reg hn h9b hp hja mt84 sl84⟩
           · exact absurd h68 (by decide)
         · exact absurd h55 (by decide))
    · first
      | exact absurd rfl h30
      | (skip
         rcases h27b with ⟨g0, -⟩ | ⟨-, M27, hm27, hr27⟩
         case inl => exact absurd g0 (by decide)
         subst hQ9
         refine pm_vret dX7_reckons_33 ?_
         exact ⟨M27, hm27, by rw [if_neg k3]; exact hr27⟩)
  · skip
    have k1 : zKind (az_t Z 0 p jb) = 0 := (slK hsb hwb).1.mp (Classical.byContradiction (fun z => h9 (if_neg z)))
    refine pm_aload_n dX7_reckons_12 rfl ?_
    refine pm_iload dX7_reckons_13 rfl ?_
    refine pm_iconst (v := 0) dX7_reckons_15 (by decide) ?_
    refine pm_vi (c_X7_is G l bs A E M (8 * p + jc) 0 _ hm (by omega)) pm_y_X7_is pm_v_X7_is pm_m_X7_178 (c := 7) (r := (RX7, TX7, 41)) rfl rfl hm.1 dX7_reckons_16 rfl rfl (by decide) (Nat.le_of_ble_eq_true rfl) (fun x16 S16 h16 => ?_)
    obtain ⟨rfl, rfl⟩ := h16
    refine pm_if_ne (tgt := 26) dX7_reckons_19 (by decide) (fun h19 => ?_) (fun h19 => ?_)
    · skip
      have k2 : zKind (az_t Z 0 p jc) = 0 := (slK hsc hwc).1.mp (Classical.byContradiction (fun z => h19 (if_neg z)))
      have k3 : zKind (az_t Z 0 p jb) = 0 ∧ zKind (az_t Z 0 p jc) = 0 := ⟨k1, k2⟩
      refine pm_iconst (v := 0) dX7_reckons_26 (by decide) ?_
      refine pm_vi (c_X7_bad G l bs A E M b Z s p _ _ hm hr hI hp h02 (by first | exact Or.inl rfl | exact Or.inr rfl)) pm_y_X7_bad pm_v_X7_bad pm_m_X7_202 (c := 7) (r := (RX7, TX7, 41)) rfl rfl hm.1 dX7_reckons_27 rfl rfl (by decide) (Nat.le_of_ble_eq_true rfl) (fun x27 S27 h27 => ?_)
      obtain ⟨rfl, h27b⟩ := h27
      refine pm_if_eq (tgt := 34) dX7_reckons_30 (by decide) (fun h30 => ?_) (fun h30 => ?_)
      · first
        | exact absurd h30 (by decide)
        | (skip
           rcases h27b with ⟨-, rfl⟩ | ⟨g0, -⟩
           case inr => exact absurd rfl g0
           refine pm_aload_n dX7_reckons_34 rfl ?_
           refine pm_iload dX7_reckons_35 rfl ?_
           refine pm_vi (c_X7_valueOf G l bs A E M (8 * p + jb) _ hm (by omega)) pm_y_X7_valueOf pm_v_X7_valueOf pm_m_X7_181 (c := 7) (r := (RX7, TX7, 41)) rfl rfl hm.1 dX7_reckons_37 rfl rfl (by decide) (Nat.le_of_ble_eq_true rfl) (fun x37 S37 h37 => ?_)
           obtain ⟨rfl, rfl⟩ := h37
           rw [slV hsb hwb]
           refine pm_istore dX7_reckons_40 (by decide) ?_
           dsimp only [List.set]
           refine pm_aload_n dX7_reckons_42 rfl ?_
           refine pm_iload dX7_reckons_43 rfl ?_
           refine pm_vi (c_X7_valueOf G l bs A E M (8 * p + jc) _ hm (by omega)) pm_y_X7_valueOf pm_v_X7_valueOf pm_m_X7_181 (c := 7) (r := (RX7, TX7, 41)) rfl rfl hm.1 dX7_reckons_45 rfl rfl (by decide) (Nat.le_of_ble_eq_true rfl) (fun x45 S45 h45 => ?_)
           obtain ⟨rfl, rfl⟩ := h45
           rw [slV hsc hwc]
           refine pm_istore dX7_reckons_48 (by decide) ?_
           dsimp only [List.set]
           refine pm_aload_n dX7_reckons_50 rfl ?_
           refine pm_iload_n dX7_reckons_51 rfl ?_
           refine pm_iconst (v := 0) dX7_reckons_52 (by decide) ?_
           refine pm_iload_n dX7_reckons_53 rfl ?_
           refine pm_iconst (v := 4) dX7_reckons_54 (by decide) ?_
           refine pm_icmp_ne (tgt := 66) dX7_reckons_55 (by decide) (fun h55 => ?_) (fun h55 => ?_)
           · skip
             skip
             refine pm_iload_n dX7_reckons_66 rfl ?_
             refine pm_iconst (v := 5) dX7_reckons_67 (by decide) ?_
             refine pm_icmp_ne (tgt := 79) dX7_reckons_68 (by decide) (fun h68 => ?_) (fun h68 => ?_)
             · skip
               skip
               refine pm_iload dX7_reckons_79 rfl ?_
               refine pm_iload dX7_reckons_81 rfl ?_
               refine pm_imul dX7_reckons_83 ?_
               refine pm_vv (c_X7_set G l bs A E M (8 * p + ja) 0 (zVal (az_t Z 0 p jb) * zVal (az_t Z 0 p jc)) _ hm (by omega)) pm_y_X7_set pm_v_X7_set pm_m_X7_124 (c := 7) (r := (RX7, TX7, 41)) rfl rfl hm.1 dX7_reckons_84 rfl rfl (by decide) (Nat.le_of_ble_eq_true rfl) (fun S84 h84 => ?_)
               obtain ⟨M84, hm84, mt84, sl84⟩ := h84
               subst hQ9
               refine pm_vret dX7_reckons_87 ?_
               exact ⟨M84, hm84, by rw [if_pos k3]; exact hr.reg hn h9b hp hja mt84 sl84⟩
             · exact absurd h68 (by decide)
           · exact absurd h55 (by decide))
      · first
        | exact absurd rfl h30
        | (skip
           rcases h27b with ⟨g0, -⟩ | ⟨-, M27, hm27, hr27⟩
           case inl => exact absurd g0 (by decide)
           subst hQ9
           refine pm_vret dX7_reckons_33 ?_
           exact ⟨M27, hm27, by rw [if_neg k3]; exact hr27⟩)
    · skip
      have k2 : ¬ zKind (az_t Z 0 p jc) = 0 := fun z => by rw [if_pos ((slK hsc hwc).1.mpr z)] at h19; cases h19
      have k3 : ¬ (zKind (az_t Z 0 p jb) = 0 ∧ zKind (az_t Z 0 p jc) = 0) := fun z => k2 z.2
      refine pm_iconst (v := 1) dX7_reckons_22 (by decide) ?_
      refine pm_goto (tgt := 27) dX7_reckons_23 (by decide) ?_
      refine pm_vi (c_X7_bad G l bs A E M b Z s p _ _ hm hr hI hp h02 (by first | exact Or.inl rfl | exact Or.inr rfl)) pm_y_X7_bad pm_v_X7_bad pm_m_X7_202 (c := 7) (r := (RX7, TX7, 41)) rfl rfl hm.1 dX7_reckons_27 rfl rfl (by decide) (Nat.le_of_ble_eq_true rfl) (fun x27 S27 h27 => ?_)
      obtain ⟨rfl, h27b⟩ := h27
      refine pm_if_eq (tgt := 34) dX7_reckons_30 (by decide) (fun h30 => ?_) (fun h30 => ?_)
      · first
        | exact absurd h30 (by decide)
        | (skip
           rcases h27b with ⟨-, rfl⟩ | ⟨g0, -⟩
           case inr => exact absurd rfl g0
           refine pm_aload_n dX7_reckons_34 rfl ?_
           refine pm_iload dX7_reckons_35 rfl ?_
           refine pm_vi (c_X7_valueOf G l bs A E M (8 * p + jb) _ hm (by omega)) pm_y_X7_valueOf pm_v_X7_valueOf pm_m_X7_181 (c := 7) (r := (RX7, TX7, 41)) rfl rfl hm.1 dX7_reckons_37 rfl rfl (by decide) (Nat.le_of_ble_eq_true rfl) (fun x37 S37 h37 => ?_)
           obtain ⟨rfl, rfl⟩ := h37
           rw [slV hsb hwb]
           refine pm_istore dX7_reckons_40 (by decide) ?_
           dsimp only [List.set]
           refine pm_aload_n dX7_reckons_42 rfl ?_
           refine pm_iload dX7_reckons_43 rfl ?_
           refine pm_vi (c_X7_valueOf G l bs A E M (8 * p + jc) _ hm (by omega)) pm_y_X7_valueOf pm_v_X7_valueOf pm_m_X7_181 (c := 7) (r := (RX7, TX7, 41)) rfl rfl hm.1 dX7_reckons_45 rfl rfl (by decide) (Nat.le_of_ble_eq_true rfl) (fun x45 S45 h45 => ?_)
           obtain ⟨rfl, rfl⟩ := h45
           rw [slV hsc hwc]
           refine pm_istore dX7_reckons_48 (by decide) ?_
           dsimp only [List.set]
           refine pm_aload_n dX7_reckons_50 rfl ?_
           refine pm_iload_n dX7_reckons_51 rfl ?_
           refine pm_iconst (v := 0) dX7_reckons_52 (by decide) ?_
           refine pm_iload_n dX7_reckons_53 rfl ?_
           refine pm_iconst (v := 4) dX7_reckons_54 (by decide) ?_
           refine pm_icmp_ne (tgt := 66) dX7_reckons_55 (by decide) (fun h55 => ?_) (fun h55 => ?_)
           · skip
             skip
             refine pm_iload_n dX7_reckons_66 rfl ?_
             refine pm_iconst (v := 5) dX7_reckons_67 (by decide) ?_
             refine pm_icmp_ne (tgt := 79) dX7_reckons_68 (by decide) (fun h68 => ?_) (fun h68 => ?_)
             · skip
               skip
               refine pm_iload dX7_reckons_79 rfl ?_
               refine pm_iload dX7_reckons_81 rfl ?_
               refine pm_imul dX7_reckons_83 ?_
               refine pm_vv (c_X7_set G l bs A E M (8 * p + ja) 0 (zVal (az_t Z 0 p jb) * zVal (az_t Z 0 p jc)) _ hm (by omega)) pm_y_X7_set pm_v_X7_set pm_m_X7_124 (c := 7) (r := (RX7, TX7, 41)) rfl rfl hm.1 dX7_reckons_84 rfl rfl (by decide) (Nat.le_of_ble_eq_true rfl) (fun S84 h84 => ?_)
               obtain ⟨M84, hm84, mt84, sl84⟩ := h84
               subst hQ9
               refine pm_vret dX7_reckons_87 ?_
               exact ⟨M84, hm84, by rw [if_pos k3]; exact hr.reg hn h9b hp hja mt84 sl84⟩
             · exact absurd h68 (by decide)
           · exact absurd h55 (by decide))
      · first
        | exact absurd rfl h30
        | (skip
           rcases h27b with ⟨g0, -⟩ | ⟨-, M27, hm27, hr27⟩
           case inl => exact absurd g0 (by decide)
           subst hQ9
           refine pm_vret dX7_reckons_33 ?_
           exact ⟨M27, hm27, by rw [if_neg k3]; exact hr27⟩)

