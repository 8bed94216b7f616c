/-! the reference: mail -/
set_option maxHeartbeats 4000000 in
set_option maxRecDepth 100000 in
theorem m_23 (G : pm_G) (l : Launch) (bs : Nat) (A : Nat → Nat) (E : pm_S) (M : pm_N) (b : Nat) (Z : az) (s : Nat) (p ja jb jc : Nat) (a bb c : Int32) (vo v9 v10 v11 : Value) (W : az) (S : pm_S) (hm : pm_MX M S A E) (hr : mR b Z M) (hI : zI s Z) (hp : p < az_a Z 0) (h0 : az_b Z 1 p = 0) (hja : ja < 8) (hjb : jb < 8) (hjc : jc < 8) (th : Int32) (hth : th = if az_b Z 10 p < az_b Z 9 p then 1 else 0) (hW : (if zKind (az_t Z 0 p ja) = 1 ∨ zKind (az_t Z 0 p ja) = 2 then zPst Z (az_t Z 0 p ja) (az_t Z 0 p jb) else zBad Z p) = W) : pm_W G l bs yX7_mails.cls cX7_mails 11 false 5 0 0 (pm_xv (fun S2 => ∃ M2, pm_MX M2 S2 A E ∧ mR b W M2)) 76 [.ref (A 50), .int (nI p), vo, .int (nI (8 * p + ja)), .int (nI (8 * p + jb)), .int (nI (pm_mod c 300)), .int (nI (pm_mod a 300)), .int th, .int (nI (480 + 40 * p + az_b Z 10 p)), v9, v10] [] S := by
  have hn := hI.1
  have hsm := hI.sm
  have h9b := hI.b9
  have h02 : az_b Z 1 p ≠ 2 := by omega
  have hsa := hr.G hp hja
  have hsb := hr.G hp hjb
  have hsc := hr.G hp hjc
  have hwa := hI.rg hp hja
  have hwb := hI.rg hp hjb
  have hwc := hI.rg hp hjc
  have hla := hwa.len
  have hlb := hwb.len
  have hlc := hwc.len
  generalize hQ9 : pm_xv (fun S2 => ∃ M2, pm_MX M2 S2 A E ∧ mR b W M2) = Q9
  refine pm_aload_n dX7_mails_76 rfl ?_
  refine pm_iload_n dX7_mails_77 rfl ?_
  refine pm_aload_n dX7_mails_78 rfl ?_
  refine pm_iload_n dX7_mails_79 rfl ?_
  refine pm_iconst (v := 2) dX7_mails_80 (by decide) ?_
  refine pm_vi (c_X7_is G l bs A E M (8 * p + ja) 2 _ hm (by omega)) pm_y_X7_is pm_v_X7_is pm_m_X7_178 (c := 7) (r := (RX7, TX7, 41)) rfl rfl hm.1 dX7_mails_81 rfl rfl (by decide) (Nat.le_of_ble_eq_true rfl) (fun x81 S81 h81 => ?_)
  obtain ⟨rfl, rfl⟩ := h81
  refine pm_if_ne (tgt := 100) dX7_mails_84 (by decide) (fun h84 => ?_) (fun h84 => ?_)
  · skip
    have k2 : zKind (az_t Z 0 p ja) = 2 := (slK hsa hwa).2.2.1.mp (Classical.byContradiction (fun z => h84 (if_neg z)))
    have k3 : zKind (az_t Z 0 p ja) = 1 ∨ zKind (az_t Z 0 p ja) = 2 := Or.inr k2
    refine pm_iconst (v := 0) dX7_mails_100 (by decide) ?_
    refine pm_vi (c_X7_bad G l bs A E M b Z s p _ _ hm hr hI hp h02 (by first | exact Or.inl rfl | exact Or.inr rfl)) pm_y_X7_bad pm_v_X7_bad pm_m_X7_202 (c := 7) (r := (RX7, TX7, 41)) rfl rfl hm.1 dX7_mails_101 rfl rfl (by decide) (Nat.le_of_ble_eq_true rfl) (fun x101 S101 h101 => ?_)
    obtain ⟨rfl, h101b⟩ := h101
    refine pm_if_eq (tgt := 110) dX7_mails_104 (by decide) (fun h104 => ?_) (fun h104 => ?_)
    · first
      | exact absurd h104 (by decide)
      | (skip
         rcases h101b with ⟨-, rfl⟩ | ⟨g0, -⟩
         case inr => exact absurd rfl g0
         refine pm_aload_n dX7_mails_110 rfl ?_
         refine pm_iload_n dX7_mails_111 rfl ?_
         refine pm_iconst (v := 2) dX7_mails_112 (by decide) ?_
         refine pm_vi (c_X7_is G l bs A E M (8 * p + ja) 2 _ hm (by omega)) pm_y_X7_is pm_v_X7_is pm_m_X7_178 (c := 7) (r := (RX7, TX7, 41)) rfl rfl hm.1 dX7_mails_113 rfl rfl (by decide) (Nat.le_of_ble_eq_true rfl) (fun x113 S113 h113 => ?_)
         obtain ⟨rfl, rfl⟩ := h113
         refine pm_if_eq (tgt := 129) dX7_mails_116 (by decide) (fun h116 => ?_) (fun h116 => ?_)
         · first
           | exact absurd h116 (by rw [if_pos ((slK hsa hwa).2.2.1.mpr k2)]; decide)
           | (skip
              obtain ⟨a9, ha9, ev, evi⟩ := hwa.atom_of k1
              have eP := zPst_1 (Z := Z) (w := (az_t Z 0 p jb)) k1
              rw [evi, Int.toNat_natCast] at eP
              refine pm_aload_n dX7_mails_129 rfl ?_
              refine pm_aload_n dX7_mails_130 rfl ?_
              refine pm_iload_n dX7_mails_131 rfl ?_
              refine pm_vi (c_X7_valueOf G l bs A E M (8 * p + ja) _ hm (by omega)) pm_y_X7_valueOf pm_v_X7_valueOf pm_m_X7_181 (c := 7) (r := (RX7, TX7, 41)) rfl rfl hm.1 dX7_mails_132 rfl rfl (by decide) (Nat.le_of_ble_eq_true rfl) (fun x132 S132 h132 => ?_)
              obtain ⟨rfl, rfl⟩ := h132
              rw [slV hsa hwa, ev]
              refine pm_vi (c_X7_withName G l bs A E M b Z s a9 _ hm hr hI ha9) pm_y_X7_withName pm_v_X7_withName pm_m_X7_245 (c := 7) (r := (RX7, TX7, 41)) rfl rfl hm.1 dX7_mails_135 rfl rfl (by decide) (Nat.le_of_ble_eq_true rfl) (fun x135 S135 h135 => ?_)
              obtain ⟨rfl, rfl⟩ := h135
              refine pm_istore dX7_mails_138 (by decide) ?_
              dsimp only [List.set]
              refine pm_iload dX7_mails_140 rfl ?_
              refine pm_iconst (v := (-1)) dX7_mails_142 (by decide) ?_
              refine pm_icmp_eq (tgt := 451) dX7_mails_143 (by decide) (fun h143 => ?_) (fun h143 => ?_)
              · first
                | exact absurd h143 (nIm1 (by omega))
                | (skip
                   have en : az_e Z 2 a9 = none := (zNm_none (fun q e => by have := (hI.2.2.2.2.2.1.2 a9 q e).2.1; omega)).mp h143
                   rw [en] at eP
                   have eP2 : zPst Z (az_t Z 0 p ja) (az_t Z 0 p jb) = Z := eP
                   subst hQ9
                   refine pm_vret dX7_mails_451 ?_
                   first
                   | (rw [if_neg k3] at hW; subst hW; exact ⟨M101, hm101, hr101⟩)
                   | (rw [if_pos k3] at hW; subst hW; exact ⟨M151, hm151, by rw [eP]; exact hr151⟩)
                   | (rw [if_pos k3] at hW; subst hW; exact ⟨M, hm, by rw [eP2]; exact hr⟩))
              · skip
                first
                | (have k2x : zKind (az_t Z 0 p ja) = 2 := k2
                   skip)
                | (obtain ⟨q9, hq9⟩ : ∃ q, az_e Z 2 a9 = some q := Option.ne_none_iff_exists'.mp (fun y => h143 (by rw [y]; rfl))
                   have hqn := (hI.2.2.2.2.2.1.2 a9 q9 hq9).2.1
                   rw [hq9] at eP
                   dsimp only at eP
                   rw [if_pos ⟨by omega, by omega⟩] at eP
                   rw [hq9, show zNm (some q9) = nI q9 from rfl])
                refine pm_aload_n dX7_mails_146 rfl ?_
                refine pm_iload dX7_mails_147 rfl ?_
                refine pm_iload dX7_mails_149 rfl ?_
                refine pm_vi (c_X7_comes G l bs A E M b Z s _ (8 * p + jb) (az_t Z 0 p jb) _ hm hr hI hqn (by omega) hsb) pm_y_X7_comes pm_v_X7_comes pm_m_X7_147 (c := 7) (r := (RX7, TX7, 41)) rfl rfl hm.1 dX7_mails_151 rfl rfl (by decide) (Nat.le_of_ble_eq_true rfl) (fun x151 S151 h151 => ?_)
                obtain ⟨-, M151, hm151, hr151⟩ := h151
                refine pm_pop dX7_mails_154 ?_
                refine pm_goto (tgt := 451) dX7_mails_155 (by decide) ?_
                subst hQ9
                refine pm_vret dX7_mails_451 ?_
                first
                | (rw [if_neg k3] at hW; subst hW; exact ⟨M101, hm101, hr101⟩)
                | (rw [if_pos k3] at hW; subst hW; exact ⟨M151, hm151, by rw [eP]; exact hr151⟩)
                | (rw [if_pos k3] at hW; subst hW; exact ⟨M, hm, by rw [eP2]; exact hr⟩))
         · first
           | exact absurd (if_neg (fun z => k2n ((slK hsa hwa).2.2.1.mp z))) h116
           | (skip
              have eP := zPst_2 (Z := Z) (w := (az_t Z 0 p jb)) hwa k2
              have hqn := (hwa.pid_of k2).1
              refine pm_aload_n dX7_mails_119 rfl ?_
              refine pm_iload_n dX7_mails_120 rfl ?_
              refine pm_vi (c_X7_valueOf G l bs A E M (8 * p + ja) _ hm (by omega)) pm_y_X7_valueOf pm_v_X7_valueOf pm_m_X7_181 (c := 7) (r := (RX7, TX7, 41)) rfl rfl hm.1 dX7_mails_121 rfl rfl (by decide) (Nat.le_of_ble_eq_true rfl) (fun x121 S121 h121 => ?_)
              obtain ⟨rfl, rfl⟩ := h121
              rw [slV hsa hwa, (hwa.pid_of k2).2.2.2.2 (by omega)]
              refine pm_iconst (v := 1) dX7_mails_124 (by decide) ?_
              refine pm_isub dX7_mails_125 ?_
              rw [nI_pred]
              refine pm_goto (tgt := 138) dX7_mails_126 (by decide) ?_
              refine pm_istore dX7_mails_138 (by decide) ?_
              dsimp only [List.set]
              refine pm_iload dX7_mails_140 rfl ?_
              refine pm_iconst (v := (-1)) dX7_mails_142 (by decide) ?_
              refine pm_icmp_eq (tgt := 451) dX7_mails_143 (by decide) (fun h143 => ?_) (fun h143 => ?_)
              · first
                | exact absurd h143 (nIm1 (by omega))
                | (skip
                   have en : az_e Z 2 a9 = none := (zNm_none (fun q e => by have := (hI.2.2.2.2.2.1.2 a9 q e).2.1; omega)).mp h143
                   rw [en] at eP
                   have eP2 : zPst Z (az_t Z 0 p ja) (az_t Z 0 p jb) = Z := eP
                   subst hQ9
                   refine pm_vret dX7_mails_451 ?_
                   first
                   | (rw [if_neg k3] at hW; subst hW; exact ⟨M101, hm101, hr101⟩)
                   | (rw [if_pos k3] at hW; subst hW; exact ⟨M151, hm151, by rw [eP]; exact hr151⟩)
                   | (rw [if_pos k3] at hW; subst hW; exact ⟨M, hm, by rw [eP2]; exact hr⟩))
              · skip
                first
                | (have k2x : zKind (az_t Z 0 p ja) = 2 := k2
                   skip)
                | (obtain ⟨q9, hq9⟩ : ∃ q, az_e Z 2 a9 = some q := Option.ne_none_iff_exists'.mp (fun y => h143 (by rw [y]; rfl))
                   have hqn := (hI.2.2.2.2.2.1.2 a9 q9 hq9).2.1
                   rw [hq9] at eP
                   dsimp only at eP
                   rw [if_pos ⟨by omega, by omega⟩] at eP
                   rw [hq9, show zNm (some q9) = nI q9 from rfl])
                refine pm_aload_n dX7_mails_146 rfl ?_
                refine pm_iload dX7_mails_147 rfl ?_
                refine pm_iload dX7_mails_149 rfl ?_
                refine pm_vi (c_X7_comes G l bs A E M b Z s _ (8 * p + jb) (az_t Z 0 p jb) _ hm hr hI hqn (by omega) hsb) pm_y_X7_comes pm_v_X7_comes pm_m_X7_147 (c := 7) (r := (RX7, TX7, 41)) rfl rfl hm.1 dX7_mails_151 rfl rfl (by decide) (Nat.le_of_ble_eq_true rfl) (fun x151 S151 h151 => ?_)
                obtain ⟨-, M151, hm151, hr151⟩ := h151
                refine pm_pop dX7_mails_154 ?_
                refine pm_goto (tgt := 451) dX7_mails_155 (by decide) ?_
                subst hQ9
                refine pm_vret dX7_mails_451 ?_
                first
                | (rw [if_neg k3] at hW; subst hW; exact ⟨M101, hm101, hr101⟩)
                | (rw [if_pos k3] at hW; subst hW; exact ⟨M151, hm151, by rw [eP]; exact hr151⟩)
                | (rw [if_pos k3] at hW; subst hW; exact ⟨M, hm, by rw [eP2]; exact hr⟩)))
    · first
      | exact absurd rfl h104
      | (skip
         rcases h101b with ⟨g0, -⟩ | ⟨-, M101, hm101, hr101⟩
         case inl => exact absurd g0 (by decide)
         refine pm_goto (tgt := 451) dX7_mails_107 (by decide) ?_
         subst hQ9
         refine pm_vret dX7_mails_451 ?_
         first
         | (rw [if_neg k3] at hW; subst hW; exact ⟨M101, hm101, hr101⟩)
         | (rw [if_pos k3] at hW; subst hW; exact ⟨M151, hm151, by rw [eP]; exact hr151⟩)
         | (rw [if_pos k3] at hW; subst hW; exact ⟨M, hm, by rw [eP2]; exact hr⟩))
  · skip
    have k2n : ¬ zKind (az_t Z 0 p ja) = 2 := fun z => by rw [if_pos ((slK hsa hwa).2.2.1.mpr z)] at h84; cases h84
    refine pm_aload_n dX7_mails_87 rfl ?_
    refine pm_iload_n dX7_mails_88 rfl ?_
    refine pm_iconst (v := 1) dX7_mails_89 (by decide) ?_
    refine pm_vi (c_X7_is G l bs A E M (8 * p + ja) 1 _ hm (by omega)) pm_y_X7_is pm_v_X7_is pm_m_X7_178 (c := 7) (r := (RX7, TX7, 41)) rfl rfl hm.1 dX7_mails_90 rfl rfl (by decide) (Nat.le_of_ble_eq_true rfl) (fun x90 S90 h90 => ?_)
    obtain ⟨rfl, rfl⟩ := h90
    refine pm_if_ne (tgt := 100) dX7_mails_93 (by decide) (fun h93 => ?_) (fun h93 => ?_)
    · skip
      have k1 : zKind (az_t Z 0 p ja) = 1 := (slK hsa hwa).2.1.mp (Classical.byContradiction (fun z => h93 (if_neg z)))
      have k3 : zKind (az_t Z 0 p ja) = 1 ∨ zKind (az_t Z 0 p ja) = 2 := Or.inl k1
      refine pm_iconst (v := 0) dX7_mails_100 (by decide) ?_
      refine pm_vi (c_X7_bad G l bs A E M b Z s p _ _ hm hr hI hp h02 (by first | exact Or.inl rfl | exact Or.inr rfl)) pm_y_X7_bad pm_v_X7_bad pm_m_X7_202 (c := 7) (r := (RX7, TX7, 41)) rfl rfl hm.1 dX7_mails_101 rfl rfl (by decide) (Nat.le_of_ble_eq_true rfl) (fun x101 S101 h101 => ?_)
      obtain ⟨rfl, h101b⟩ := h101
      refine pm_if_eq (tgt := 110) dX7_mails_104 (by decide) (fun h104 => ?_) (fun h104 => ?_)
      · first
        | exact absurd h104 (by decide)
        | (skip
           rcases h101b with ⟨-, rfl⟩ | ⟨g0, -⟩
           case inr => exact absurd rfl g0
           refine pm_aload_n dX7_mails_110 rfl ?_
           refine pm_iload_n dX7_mails_111 rfl ?_
           refine pm_iconst (v := 2) dX7_mails_112 (by decide) ?_
           refine pm_vi (c_X7_is G l bs A E M (8 * p + ja) 2 _ hm (by omega)) pm_y_X7_is pm_v_X7_is pm_m_X7_178 (c := 7) (r := (RX7, TX7, 41)) rfl rfl hm.1 dX7_mails_113 rfl rfl (by decide) (Nat.le_of_ble_eq_true rfl) (fun x113 S113 h113 => ?_)
           obtain ⟨rfl, rfl⟩ := h113
           refine pm_if_eq (tgt := 129) dX7_mails_116 (by decide) (fun h116 => ?_) (fun h116 => ?_)
           · first
             | exact absurd h116 (by rw [if_pos ((slK hsa hwa).2.2.1.mpr k2)]; decide)
             | (skip
                obtain ⟨a9, ha9, ev, evi⟩ := hwa.atom_of k1
                have eP := zPst_1 (Z := Z) (w := (az_t Z 0 p jb)) k1
                rw [evi, Int.toNat_natCast] at eP
                refine pm_aload_n dX7_mails_129 rfl ?_
                refine pm_aload_n dX7_mails_130 rfl ?_
                refine pm_iload_n dX7_mails_131 rfl ?_
                refine pm_vi (c_X7_valueOf G l bs A E M (8 * p + ja) _ hm (by omega)) pm_y_X7_valueOf pm_v_X7_valueOf pm_m_X7_181 (c := 7) (r := (RX7, TX7, 41)) rfl rfl hm.1 dX7_mails_132 rfl rfl (by decide) (Nat.le_of_ble_eq_true rfl) (fun x132 S132 h132 => ?_)
                obtain ⟨rfl, rfl⟩ := h132
                rw [slV hsa hwa, ev]
                refine pm_vi (c_X7_withName G l bs A E M b Z s a9 _ hm hr hI ha9) pm_y_X7_withName pm_v_X7_withName pm_m_X7_245 (c := 7) (r := (RX7, TX7, 41)) rfl rfl hm.1 dX7_mails_135 rfl rfl (by decide) (Nat.le_of_ble_eq_true rfl) (fun x135 S135 h135 => ?_)
                obtain ⟨rfl, rfl⟩ := h135
                refine pm_istore dX7_mails_138 (by decide) ?_
                dsimp only [List.set]
                refine pm_iload dX7_mails_140 rfl ?_
                refine pm_iconst (v := (-1)) dX7_mails_142 (by decide) ?_
                refine pm_icmp_eq (tgt := 451) dX7_mails_143 (by decide) (fun h143 => ?_) (fun h143 => ?_)
                · first
                  | exact absurd h143 (nIm1 (by omega))
                  | (skip
                     have en : az_e Z 2 a9 = none := (zNm_none (fun q e => by have := (hI.2.2.2.2.2.1.2 a9 q e).2.1; omega)).mp h143
                     rw [en] at eP
                     have eP2 : zPst Z (az_t Z 0 p ja) (az_t Z 0 p jb) = Z := eP
                     subst hQ9
                     refine pm_vret dX7_mails_451 ?_
                     first
                     | (rw [if_neg k3] at hW; subst hW; exact ⟨M101, hm101, hr101⟩)
                     | (rw [if_pos k3] at hW; subst hW; exact ⟨M151, hm151, by rw [eP]; exact hr151⟩)
                     | (rw [if_pos k3] at hW; subst hW; exact ⟨M, hm, by rw [eP2]; exact hr⟩))
                · skip
                  first
                  | (have k2x : zKind (az_t Z 0 p ja) = 2 := k2
                     skip)
                  | (obtain ⟨q9, hq9⟩ : ∃ q, az_e Z 2 a9 = some q := Option.ne_none_iff_exists'.mp (fun y => h143 (by rw [y]; rfl))
                     have hqn := (hI.2.2.2.2.2.1.2 a9 q9 hq9).2.1
                     rw [hq9] at eP
                     dsimp only at eP
                     rw [if_pos ⟨by omega, by omega⟩] at eP
                     rw [hq9, show zNm (some q9) = nI q9 from rfl])
                  refine pm_aload_n dX7_mails_146 rfl ?_
                  refine pm_iload dX7_mails_147 rfl ?_
                  refine pm_iload dX7_mails_149 rfl ?_
                  refine pm_vi (c_X7_comes G l bs A E M b Z s _ (8 * p + jb) (az_t Z 0 p jb) _ hm hr hI hqn (by omega) hsb) pm_y_X7_comes pm_v_X7_comes pm_m_X7_147 (c := 7) (r := (RX7, TX7, 41)) rfl rfl hm.1 dX7_mails_151 rfl rfl (by decide) (Nat.le_of_ble_eq_true rfl) (fun x151 S151 h151 => ?_)
                  obtain ⟨-, M151, hm151, hr151⟩ := h151
                  refine pm_pop dX7_mails_154 ?_
                  refine pm_goto (tgt := 451) dX7_mails_155 (by decide) ?_
                  subst hQ9
                  refine pm_vret dX7_mails_451 ?_
                  first
                  | (rw [if_neg k3] at hW; subst hW; exact ⟨M101, hm101, hr101⟩)
                  | (rw [if_pos k3] at hW; subst hW; exact ⟨M151, hm151, by rw [eP]; exact hr151⟩)
                  | (rw [if_pos k3] at hW; subst hW; exact ⟨M, hm, by rw [eP2]; exact hr⟩))
           · first
             | exact absurd (if_neg (fun z => k2n ((slK hsa hwa).2.2.1.mp z))) h116
             | (skip
                have eP := zPst_2 (Z := Z) (w := (az_t Z 0 p jb)) hwa k2
                have hqn := (hwa.pid_of k2).1
                refine pm_aload_n dX7_mails_119 rfl ?_
                refine pm_iload_n dX7_mails_120 rfl ?_
                refine pm_vi (c_X7_valueOf G l bs A E M (8 * p + ja) _ hm (by omega)) pm_y_X7_valueOf pm_v_X7_valueOf pm_m_X7_181 (c := 7) (r := (RX7, TX7, 41)) rfl rfl hm.1 dX7_mails_121 rfl rfl (by decide) (Nat.le_of_ble_eq_true rfl) (fun x121 S121 h121 => ?_)
                obtain ⟨rfl, rfl⟩ := h121
                rw [slV hsa hwa, (hwa.pid_of k2).2.2.2.2 (by omega)]
                refine pm_iconst (v := 1) dX7_mails_124 (by decide) ?_
                refine pm_isub dX7_mails_125 ?_
                rw [nI_pred]
                refine pm_goto (tgt := 138) dX7_mails_126 (by decide) ?_
                refine pm_istore dX7_mails_138 (by decide) ?_
                dsimp only [List.set]
                refine pm_iload dX7_mails_140 rfl ?_
                refine pm_iconst (v := (-1)) dX7_mails_142 (by decide) ?_
                refine pm_icmp_eq (tgt := 451) dX7_mails_143 (by decide) (fun h143 => ?_) (fun h143 => ?_)
                · first
                  | exact absurd h143 (nIm1 (by omega))
                  | (skip
                     have en : az_e Z 2 a9 = none := (zNm_none (fun q e => by have := (hI.2.2.2.2.2.1.2 a9 q e).2.1; omega)).mp h143
                     rw [en] at eP
                     have eP2 : zPst Z (az_t Z 0 p ja) (az_t Z 0 p jb) = Z := eP
                     subst hQ9
                     refine pm_vret dX7_mails_451 ?_
                     first
                     | (rw [if_neg k3] at hW; subst hW; exact ⟨M101, hm101, hr101⟩)
                     | (rw [if_pos k3] at hW; subst hW; exact ⟨M151, hm151, by rw [eP]; exact hr151⟩)
                     | (rw [if_pos k3] at hW; subst hW; exact ⟨M, hm, by rw [eP2]; exact hr⟩))
                · skip
                  first
                  | (have k2x : zKind (az_t Z 0 p ja) = 2 := k2
                     skip)
                  | (obtain ⟨q9, hq9⟩ : ∃ q, az_e Z 2 a9 = some q := Option.ne_none_iff_exists'.mp (fun y => h143 (by rw [y]; rfl))
                     have hqn := (hI.2.2.2.2.2.1.2 a9 q9 hq9).2.1
                     rw [hq9] at eP
                     dsimp only at eP
                     rw [if_pos ⟨by omega, by omega⟩] at eP
                     rw [hq9, show zNm (some q9) = nI q9 from rfl])
                  refine pm_aload_n dX7_mails_146 rfl ?_
                  refine pm_iload dX7_mails_147 rfl ?_
                  refine pm_iload dX7_mails_149 rfl ?_
                  refine pm_vi (c_X7_comes G l bs A E M b Z s _ (8 * p + jb) (az_t Z 0 p jb) _ hm hr hI hqn (by omega) hsb) pm_y_X7_comes pm_v_X7_comes pm_m_X7_147 (c := 7) (r := (RX7, TX7, 41)) rfl rfl hm.1 dX7_mails_151 rfl rfl (by decide) (Nat.le_of_ble_eq_true rfl) (fun x151 S151 h151 => ?_)
                  obtain ⟨-, M151, hm151, hr151⟩ := h151
                  refine pm_pop dX7_mails_154 ?_
                  refine pm_goto (tgt := 451) dX7_mails_155 (by decide) ?_
                  subst hQ9
                  refine pm_vret dX7_mails_451 ?_
                  first
                  | (rw [if_neg k3] at hW; subst hW; exact ⟨M101, hm101, hr101⟩)
                  | (rw [if_pos k3] at hW; subst hW; exact ⟨M151, hm151, by rw [eP]; exact hr151⟩)
                  | (rw [if_pos k3] at hW; subst hW; exact ⟨M, hm, by rw [eP2]; exact hr⟩)))
      · first
        | exact absurd rfl h104
        | (skip
           rcases h101b with ⟨g0, -⟩ | ⟨-, M101, hm101, hr101⟩
           case inl => exact absurd g0 (by decide)
           refine pm_goto (tgt := 451) dX7_mails_107 (by decide) ?_
           subst hQ9
           refine pm_vret dX7_mails_451 ?_
           first
           | (rw [if_neg k3] at hW; subst hW; exact ⟨M101, hm101, hr101⟩)
           | (rw [if_pos k3] at hW; subst hW; exact ⟨M151, hm151, by rw [eP]; exact hr151⟩)
           | (rw [if_pos k3] at hW; subst hW; exact ⟨M, hm, by rw [eP2]; exact hr⟩))
    · skip
      have k1n : ¬ zKind (az_t Z 0 p ja) = 1 := fun z => by rw [if_pos ((slK hsa hwa).2.1.mpr z)] at h93; cases h93
      have k3 : ¬ (zKind (az_t Z 0 p ja) = 1 ∨ zKind (az_t Z 0 p ja) = 2) := fun z => by rcases z with q | q; exact k1n q; exact k2n q
      refine pm_iconst (v := 1) dX7_mails_96 (by decide) ?_
      refine pm_goto (tgt := 101) dX7_mails_97 (by decide) ?_
      refine pm_vi (c_X7_bad G l bs A E M b Z s p _ _ hm hr hI hp h02 (by first | exact Or.inl rfl | exact Or.inr rfl)) pm_y_X7_bad pm_v_X7_bad pm_m_X7_202 (c := 7) (r := (RX7, TX7, 41)) rfl rfl hm.1 dX7_mails_101 rfl rfl (by decide) (Nat.le_of_ble_eq_true rfl) (fun x101 S101 h101 => ?_)
      obtain ⟨rfl, h101b⟩ := h101
      refine pm_if_eq (tgt := 110) dX7_mails_104 (by decide) (fun h104 => ?_) (fun h104 => ?_)
      · first
        | exact absurd h104 (by decide)
        | (skip
           rcases h101b with ⟨-, rfl⟩ | ⟨g0, -⟩
           case inr => exact absurd rfl g0
           refine pm_aload_n dX7_mails_110 rfl ?_
           refine pm_iload_n dX7_mails_111 rfl ?_
           refine pm_iconst (v := 2) dX7_mails_112 (by decide) ?_
           refine pm_vi (c_X7_is G l bs A E M (8 * p + ja) 2 _ hm (by omega)) pm_y_X7_is pm_v_X7_is pm_m_X7_178 (c := 7) (r := (RX7, TX7, 41)) rfl rfl hm.1 dX7_mails_113 rfl rfl (by decide) (Nat.le_of_ble_eq_true rfl) (fun x113 S113 h113 => ?_)
           obtain ⟨rfl, rfl⟩ := h113
           refine pm_if_eq (tgt := 129) dX7_mails_116 (by decide) (fun h116 => ?_) (fun h116 => ?_)
           · first
             | exact absurd h116 (by rw [if_pos ((slK hsa hwa).2.2.1.mpr k2)]; decide)
             | (skip
                obtain ⟨a9, ha9, ev, evi⟩ := hwa.atom_of k1
                have eP := zPst_1 (Z := Z) (w := (az_t Z 0 p jb)) k1
                rw [evi, Int.toNat_natCast] at eP
                refine pm_aload_n dX7_mails_129 rfl ?_
                refine pm_aload_n dX7_mails_130 rfl ?_
                refine pm_iload_n dX7_mails_131 rfl ?_
                refine pm_vi (c_X7_valueOf G l bs A E M (8 * p + ja) _ hm (by omega)) pm_y_X7_valueOf pm_v_X7_valueOf pm_m_X7_181 (c := 7) (r := (RX7, TX7, 41)) rfl rfl hm.1 dX7_mails_132 rfl rfl (by decide) (Nat.le_of_ble_eq_true rfl) (fun x132 S132 h132 => ?_)
                obtain ⟨rfl, rfl⟩ := h132
                rw [slV hsa hwa, ev]
                refine pm_vi (c_X7_withName G l bs A E M b Z s a9 _ hm hr hI ha9) pm_y_X7_withName pm_v_X7_withName pm_m_X7_245 (c := 7) (r := (RX7, TX7, 41)) rfl rfl hm.1 dX7_mails_135 rfl rfl (by decide) (Nat.le_of_ble_eq_true rfl) (fun x135 S135 h135 => ?_)
                obtain ⟨rfl, rfl⟩ := h135
                refine pm_istore dX7_mails_138 (by decide) ?_
                dsimp only [List.set]
                refine pm_iload dX7_mails_140 rfl ?_
                refine pm_iconst (v := (-1)) dX7_mails_142 (by decide) ?_
                refine pm_icmp_eq (tgt := 451) dX7_mails_143 (by decide) (fun h143 => ?_) (fun h143 => ?_)
                · first
                  | exact absurd h143 (nIm1 (by omega))
                  | (skip
                     have en : az_e Z 2 a9 = none := (zNm_none (fun q e => by have := (hI.2.2.2.2.2.1.2 a9 q e).2.1; omega)).mp h143
                     rw [en] at eP
                     have eP2 : zPst Z (az_t Z 0 p ja) (az_t Z 0 p jb) = Z := eP
                     subst hQ9
                     refine pm_vret dX7_mails_451 ?_
                     first
                     | (rw [if_neg k3] at hW; subst hW; exact ⟨M101, hm101, hr101⟩)
                     | (rw [if_pos k3] at hW; subst hW; exact ⟨M151, hm151, by rw [eP]; exact hr151⟩)
                     | (rw [if_pos k3] at hW; subst hW; exact ⟨M, hm, by rw [eP2]; exact hr⟩))
                · skip
                  first
                  | (have k2x : zKind (az_t Z 0 p ja) = 2 := k2
                     skip)
                  | (obtain ⟨q9, hq9⟩ : ∃ q, az_e Z 2 a9 = some q := Option.ne_none_iff_exists'.mp (fun y => h143 (by rw [y]; rfl))
                     have hqn := (hI.2.2.2.2.2.1.2 a9 q9 hq9).2.1
                     rw [hq9] at eP
                     dsimp only at eP
                     rw [if_pos ⟨by omega, by omega⟩] at eP
                     rw [hq9, show zNm (some q9) = nI q9 from rfl])
                  refine pm_aload_n dX7_mails_146 rfl ?_
                  refine pm_iload dX7_mails_147 rfl ?_
                  refine pm_iload dX7_mails_149 rfl ?_
                  refine pm_vi (c_X7_comes G l bs A E M b Z s _ (8 * p + jb) (az_t Z 0 p jb) _ hm hr hI hqn (by omega) hsb) pm_y_X7_comes pm_v_X7_comes pm_m_X7_147 (c := 7) (r := (RX7, TX7, 41)) rfl rfl hm.1 dX7_mails_151 rfl rfl (by decide) (Nat.le_of_ble_eq_true rfl) (fun x151 S151 h151 => ?_)
                  obtain ⟨-, M151, hm151, hr151⟩ := h151
                  refine pm_pop dX7_mails_154 ?_
                  refine pm_goto (tgt := 451) dX7_mails_155 (by decide) ?_
                  subst hQ9
                  refine pm_vret dX7_mails_451 ?_
                  first
                  | (rw [if_neg k3] at hW; subst hW; exact ⟨M101, hm101, hr101⟩)
                  | (rw [if_pos k3] at hW; subst hW; exact ⟨M151, hm151, by rw [eP]; exact hr151⟩)
                  | (rw [if_pos k3] at hW; subst hW; exact ⟨M, hm, by rw [eP2]; exact hr⟩))
           · first
             | exact absurd (if_neg (fun z => k2n ((slK hsa hwa).2.2.1.mp z))) h116
             | (skip
                have eP := zPst_2 (Z := Z) (w := (az_t Z 0 p jb)) hwa k2
                have hqn := (hwa.pid_of k2).1
                refine pm_aload_n dX7_mails_119 rfl ?_
                refine pm_iload_n dX7_mails_120 rfl ?_
                refine pm_vi (c_X7_valueOf G l bs A E M (8 * p + ja) _ hm (by omega)) pm_y_X7_valueOf pm_v_X7_valueOf pm_m_X7_181 (c := 7) (r := (RX7, TX7, 41)) rfl rfl hm.1 dX7_mails_121 rfl rfl (by decide) (Nat.le_of_ble_eq_true rfl) (fun x121 S121 h121 => ?_)
                obtain ⟨rfl, rfl⟩ := h121
                rw [slV hsa hwa, (hwa.pid_of k2).2.2.2.2 (by omega)]
                refine pm_iconst (v := 1) dX7_mails_124 (by decide) ?_
                refine pm_isub dX7_mails_125 ?_
                rw [nI_pred]
                refine pm_goto (tgt := 138) dX7_mails_126 (by decide) ?_
                refine pm_istore dX7_mails_138 (by decide) ?_
                dsimp only [List.set]
                refine pm_iload dX7_mails_140 rfl ?_
                refine pm_iconst (v := (-1)) dX7_mails_142 (by decide) ?_
                refine pm_icmp_eq (tgt := 451) dX7_mails_143 (by decide) (fun h143 => ?_) (fun h143 => ?_)
                · first
                  | exact absurd h143 (nIm1 (by omega))
                  | (skip
                     have en : az_e Z 2 a9 = none := (zNm_none (fun q e => by have := (hI.2.2.2.2.2.1.2 a9 q e).2.1; omega)).mp h143
                     rw [en] at eP
                     have eP2 : zPst Z (az_t Z 0 p ja) (az_t Z 0 p jb) = Z := eP
                     subst hQ9
                     refine pm_vret dX7_mails_451 ?_
                     first
                     | (rw [if_neg k3] at hW; subst hW; exact ⟨M101, hm101, hr101⟩)
                     | (rw [if_pos k3] at hW; subst hW; exact ⟨M151, hm151, by rw [eP]; exact hr151⟩)
                     | (rw [if_pos k3] at hW; subst hW; exact ⟨M, hm, by rw [eP2]; exact hr⟩))
                · skip
                  first
                  | (have k2x : zKind (az_t Z 0 p ja) = 2 := k2
                     skip)
                  | (obtain ⟨q9, hq9⟩ : ∃ q, az_e Z 2 a9 = some q := Option.ne_none_iff_exists'.mp (fun y => h143 (by rw [y]; rfl))
                     have hqn := (hI.2.2.2.2.2.1.2 a9 q9 hq9).2.1
                     rw [hq9] at eP
                     dsimp only at eP
                     rw [if_pos ⟨by omega, by omega⟩] at eP
                     rw [hq9, show zNm (some q9) = nI q9 from rfl])
                  refine pm_aload_n dX7_mails_146 rfl ?_
                  refine pm_iload dX7_mails_147 rfl ?_
                  refine pm_iload dX7_mails_149 rfl ?_
                  refine pm_vi (c_X7_comes G l bs A E M b Z s _ (8 * p + jb) (az_t Z 0 p jb) _ hm hr hI hqn (by omega) hsb) pm_y_X7_comes pm_v_X7_comes pm_m_X7_147 (c := 7) (r := (RX7, TX7, 41)) rfl rfl hm.1 dX7_mails_151 rfl rfl (by decide) (Nat.le_of_ble_eq_true rfl) (fun x151 S151 h151 => ?_)
                  obtain ⟨-, M151, hm151, hr151⟩ := h151
                  refine pm_pop dX7_mails_154 ?_
                  refine pm_goto (tgt := 451) dX7_mails_155 (by decide) ?_
                  subst hQ9
                  refine pm_vret dX7_mails_451 ?_
                  first
                  | (rw [if_neg k3] at hW; subst hW; exact ⟨M101, hm101, hr101⟩)
                  | (rw [if_pos k3] at hW; subst hW; exact ⟨M151, hm151, by rw [eP]; exact hr151⟩)
                  | (rw [if_pos k3] at hW; subst hW; exact ⟨M, hm, by rw [eP2]; exact hr⟩)))
      · first
        | exact absurd rfl h104
        | (skip
           rcases h101b with ⟨g0, -⟩ | ⟨-, M101, hm101, hr101⟩
           case inl => exact absurd g0 (by decide)
           refine pm_goto (tgt := 451) dX7_mails_107 (by decide) ?_
           subst hQ9
           refine pm_vret dX7_mails_451 ?_
           first
           | (rw [if_neg k3] at hW; subst hW; exact ⟨M101, hm101, hr101⟩)
           | (rw [if_pos k3] at hW; subst hW; exact ⟨M151, hm151, by rw [eP]; exact hr151⟩)
           | (rw [if_pos k3] at hW; subst hW; exact ⟨M, hm, by rw [eP2]; exact hr⟩))

set_option maxHeartbeats 4000000 in
set_option maxRecDepth 100000 in
theorem m_24 (G : pm_G) (l : Launch) (bs : Nat) (A : Nat → Nat) (E : pm_S) (M : pm_N) (b : Nat) (Z : az) (s : Nat) (p ja jb jc : Nat) (a bb c : Int32) (vo v9 v10 v11 : Value) (W : az) (S : pm_S) (hm : pm_MX M S A E) (hr : mR b Z M) (hI : zI s Z) (hp : p < az_a Z 0) (h0 : az_b Z 1 p = 0) (hja : ja < 8) (hjb : jb < 8) (hjc : jc < 8) (th : Int32) (hth : th = if az_b Z 10 p < az_b Z 9 p then 1 else 0) (hW : (if az_b Z 10 p < az_b Z 9 p then zs_t Z 0 p jb (az_t Z 2 p (az_b Z 10 p)) else zAt Z p (pm_mod a 300)) = W) : pm_W G l bs yX7_mails.cls cX7_mails 11 false 5 0 0 (pm_xv (fun S2 => ∃ M2, pm_MX M2 S2 A E ∧ mR b W M2)) 158 [.ref (A 50), .int (nI p), vo, .int (nI (8 * p + ja)), .int (nI (8 * p + jb)), .int (nI (pm_mod c 300)), .int (nI (pm_mod a 300)), .int th, .int (nI (480 + 40 * p + az_b Z 10 p)), v9, v10] [] S := by
  have hn := hI.1
  have hsm := hI.sm
  have h9b := hI.b9
  have h02 : az_b Z 1 p ≠ 2 := by omega
  have hsa := hr.G hp hja
  have hsb := hr.G hp hjb
  have hsc := hr.G hp hjc
  have hwa := hI.rg hp hja
  have hwb := hI.rg hp hjb
  have hwc := hI.rg hp hjc
  have hla := hwa.len
  have hlb := hwb.len
  have hlc := hwc.len
  generalize hQ9 : pm_xv (fun S2 => ∃ M2, pm_MX M2 S2 A E ∧ mR b W M2) = Q9
  have b9 := h9b p hp
  have b10 : az_b Z 10 p ≤ 40 := hI.b hp 10
  refine pm_iload dX7_mails_158 rfl ?_
  refine pm_if_eq (tgt := 174) dX7_mails_160 (by decide) (fun h160 => ?_) (fun h160 => ?_)
  · skip
    have gt : ¬ az_b Z 10 p < az_b Z 9 p := fun z => by rw [hth, if_pos z] at h160; cases h160
    refine pm_aload_n dX7_mails_174 rfl ?_
    refine pm_g_Model_place hm.1 pm_f_X7_32 (hm.2.1 7 (by decide)).1 dX7_mails_175 ?_
    refine pm_iload_n dX7_mails_178 rfl ?_
    refine pm_iload dX7_mails_179 rfl ?_
    refine mm_iastore (n := _) hm (by decide) rfl (by show _ < 60; omega) dX7_mails_181 (fun S181 hm181 => ?_)
    refine pm_goto (tgt := 451) dX7_mails_182 (by decide) ?_
    subst hQ9
    refine pm_vret dX7_mails_451 ?_
    first
    | (rw [if_pos gt] at hW; subst hW; exact ⟨M168, hm168, hr.reg hn h9b hp hjb mt168 sl168⟩)
    | (rw [if_neg gt] at hW; subst hW; exact ⟨_, hm181, hr.b0 (s := 7) (i := 2) hp rfl (by decide)⟩)
  · skip
    have gt : az_b Z 10 p < az_b Z 9 p := Classical.byContradiction (fun z => h160 (hth.trans (if_neg z)))
    refine pm_aload_n dX7_mails_163 rfl ?_
    refine pm_iload dX7_mails_164 rfl ?_
    refine pm_iload dX7_mails_166 rfl ?_
    refine pm_vv (c_X7_copy G l bs A E M (8 * p + jb) (480 + 40 * p + az_b Z 10 p) _ _ hm (by omega) (by omega) ((hr.2.2.2.2.2.2.2.2.2.2.1 p hp).2.1 _ gt)) pm_y_X7_copy pm_v_X7_copy pm_m_X7_136 (c := 7) (r := (RX7, TX7, 41)) rfl rfl hm.1 dX7_mails_168 rfl rfl (by decide) (Nat.le_of_ble_eq_true rfl) (fun S168 h168 => ?_)
    obtain ⟨M168, hm168, mt168, sl168⟩ := h168
    refine pm_goto (tgt := 451) dX7_mails_171 (by decide) ?_
    subst hQ9
    refine pm_vret dX7_mails_451 ?_
    first
    | (rw [if_pos gt] at hW; subst hW; exact ⟨M168, hm168, hr.reg hn h9b hp hjb mt168 sl168⟩)
    | (rw [if_neg gt] at hW; subst hW; exact ⟨_, hm181, hr.b0 (s := 7) (i := 2) hp rfl (by decide)⟩)

set_option maxHeartbeats 4000000 in
set_option maxRecDepth 100000 in
theorem m_26 (G : pm_G) (l : Launch) (bs : Nat) (A : Nat → Nat) (E : pm_S) (M : pm_N) (b : Nat) (Z : az) (s : Nat) (p ja jb jc : Nat) (a bb c : Int32) (vo v9 v10 v11 : Value) (W : az) (S : pm_S) (hm : pm_MX M S A E) (hr : mR b Z M) (hI : zI s Z) (hp : p < az_a Z 0) (h0 : az_b Z 1 p = 0) (hja : ja < 8) (hjb : jb < 8) (hjc : jc < 8) (th : Int32) (hth : th = if az_b Z 10 p < az_b Z 9 p then 1 else 0) (hW : (if az_b Z 10 p < az_b Z 9 p then zs_b Z 10 p (az_b Z 10 p + 1) else Z) = W) : pm_W G l bs yX7_mails.cls cX7_mails 11 false 5 0 0 (pm_xv (fun S2 => ∃ M2, pm_MX M2 S2 A E ∧ mR b W M2)) 269 [.ref (A 50), .int (nI p), vo, .int (nI (8 * p + ja)), .int (nI (8 * p + jb)), .int (nI (pm_mod c 300)), .int (nI (pm_mod a 300)), .int th, .int (nI (480 + 40 * p + az_b Z 10 p)), v9, v10] [] S := by
  have hn := hI.1
  have hsm := hI.sm
  have h9b := hI.b9
  have h02 : az_b Z 1 p ≠ 2 := by omega
  have hsa := hr.G hp hja
  have hsb := hr.G hp hjb
  have hsc := hr.G hp hjc
  have hwa := hI.rg hp hja
  have hwb := hI.rg hp hjb
  have hwc := hI.rg hp hjc
  have hla := hwa.len
  have hlb := hwb.len
  have hlc := hwc.len
  generalize hQ9 : pm_xv (fun S2 => ∃ M2, pm_MX M2 S2 A E ∧ mR b W M2) = Q9
  refine pm_aload_n dX7_mails_269 rfl ?_
  refine pm_g_Model_pointer hm.1 pm_f_X7_48 (hm.2.1 12 (by decide)).1 dX7_mails_270 ?_
  refine pm_iload_n dX7_mails_273 rfl ?_
  refine pm_dup2 dX7_mails_274 ?_
  refine mm_iaload (n := _) hm (by decide) rfl (by show _ < 60; omega) dX7_mails_275 ?_
  refine pm_iload dX7_mails_276 rfl ?_
  refine pm_if_eq (tgt := 285) dX7_mails_278 (by decide) (fun h278 => ?_) (fun h278 => ?_)
  · skip
    have gt : ¬ az_b Z 10 p < az_b Z 9 p := fun z => by rw [hth, if_pos z] at h278; cases h278
    refine pm_iconst (v := 0) dX7_mails_285 (by decide) ?_
    refine pm_iadd dX7_mails_286 ?_
    rw [hr.B (i := 10) hp rfl]
    try rw [nI_1]
    try rw [show nI (az_b Z 10 p) + 0 = nI (az_b Z 10 p) from nI_add _ 0]
    refine mm_iastore (n := _) hm (by decide) rfl (by show _ < 60; omega) dX7_mails_287 (fun S287 hm287 => ?_)
    refine pm_goto (tgt := 451) dX7_mails_288 (by decide) ?_
    subst hQ9
    refine pm_vret dX7_mails_451 ?_
    first
    | (rw [if_pos gt] at hW; subst hW; exact ⟨_, hm287, hr.b0 (s := 12) (i := 10) hp rfl (by decide)⟩)
    | (rw [if_neg gt] at hW; subst hW; exact ⟨_, hm287, by have q := hr.b0 (s := 12) (i := 10) (v := az_b Z 10 p) hp rfl (by decide); rw [zb_id _ rfl] at q; exact q⟩)
  · skip
    have gt : az_b Z 10 p < az_b Z 9 p := Classical.byContradiction (fun z => h278 (hth.trans (if_neg z)))
    refine pm_iconst (v := 1) dX7_mails_281 (by decide) ?_
    refine pm_goto (tgt := 286) dX7_mails_282 (by decide) ?_
    refine pm_iadd dX7_mails_286 ?_
    rw [hr.B (i := 10) hp rfl]
    try rw [nI_1]
    try rw [show nI (az_b Z 10 p) + 0 = nI (az_b Z 10 p) from nI_add _ 0]
    refine mm_iastore (n := _) hm (by decide) rfl (by show _ < 60; omega) dX7_mails_287 (fun S287 hm287 => ?_)
    refine pm_goto (tgt := 451) dX7_mails_288 (by decide) ?_
    subst hQ9
    refine pm_vret dX7_mails_451 ?_
    first
    | (rw [if_pos gt] at hW; subst hW; exact ⟨_, hm287, hr.b0 (s := 12) (i := 10) hp rfl (by decide)⟩)
    | (rw [if_neg gt] at hW; subst hW; exact ⟨_, hm287, by have q := hr.b0 (s := 12) (i := 10) (v := az_b Z 10 p) hp rfl (by decide); rw [zb_id _ rfl] at q; exact q⟩)

set_option maxHeartbeats 4000000 in
set_option maxRecDepth 100000 in
theorem m_27 (G : pm_G) (l : Launch) (bs : Nat) (A : Nat → Nat) (E : pm_S) (M : pm_N) (b : Nat) (Z : az) (s : Nat) (p ja jb jc : Nat) (a bb c : Int32) (vo v9 v10 v11 : Value) (W : az) (S : pm_S) (hm : pm_MX M S A E) (hr : mR b Z M) (hI : zI s Z) (hp : p < az_a Z 0) (h0 : az_b Z 1 p = 0) (hja : ja < 8) (hjb : jb < 8) (hjc : jc < 8) (th : Int32) (hth : th = if az_b Z 10 p < az_b Z 9 p then 1 else 0) (hW : (if az_b Z 10 p < az_b Z 9 p then zAt Z p (pm_mod a 300) else zs_e (zs_b (zs_b (zs_b Z 1 p 1) 3 p (pm_mod a 300)) 4 p (pm_mod a 300)) 1 p none) = W) : pm_W G l bs yX7_mails.cls cX7_mails 11 false 5 0 0 (pm_xv (fun S2 => ∃ M2, pm_MX M2 S2 A E ∧ mR b W M2)) 291 [.ref (A 50), .int (nI p), vo, .int (nI (8 * p + ja)), .int (nI (8 * p + jb)), .int (nI (pm_mod c 300)), .int (nI (pm_mod a 300)), .int th, .int (nI (480 + 40 * p + az_b Z 10 p)), v9, v10] [] S := by
  have hn := hI.1
  have hsm := hI.sm
  have h9b := hI.b9
  have h02 : az_b Z 1 p ≠ 2 := by omega
  have hsa := hr.G hp hja
  have hsb := hr.G hp hjb
  have hsc := hr.G hp hjc
  have hwa := hI.rg hp hja
  have hwb := hI.rg hp hjb
  have hwc := hI.rg hp hjc
  have hla := hwa.len
  have hlb := hwb.len
  have hlc := hwc.len
  generalize hQ9 : pm_xv (fun S2 => ∃ M2, pm_MX M2 S2 A E ∧ mR b W M2) = Q9
  refine pm_iload dX7_mails_291 rfl ?_
  refine pm_if_eq (tgt := 307) dX7_mails_293 (by decide) (fun h293 => ?_) (fun h293 => ?_)
  · skip
    have gt : ¬ az_b Z 10 p < az_b Z 9 p := fun z => by rw [hth, if_pos z] at h293; cases h293
    refine pm_aload_n dX7_mails_307 rfl ?_
    refine pm_iload_n dX7_mails_308 rfl ?_
    refine pm_iload dX7_mails_309 rfl ?_
    refine pm_vv (c_X7_waits G l bs A E M p (nI (pm_mod a 300)) _ hm (by omega)) pm_y_X7_waits pm_v_X7_waits pm_m_X7_248 (c := 7) (r := (RX7, TX7, 41)) rfl rfl hm.1 dX7_mails_311 rfl rfl (by decide) (Nat.le_of_ble_eq_true rfl) (fun S311 h311 => ?_)
    refine pm_goto (tgt := 451) dX7_mails_314 (by decide) ?_
    subst hQ9
    refine pm_vret dX7_mails_451 ?_
    first
    | (rw [if_pos gt] at hW; subst hW; exact ⟨_, hm303, hr.b0 (s := 7) (i := 2) hp rfl (by decide)⟩)
    | (rw [if_neg gt] at hW; subst hW; exact ⟨_, h311, hr.wt0 hp (by omega)⟩)
  · skip
    have gt : az_b Z 10 p < az_b Z 9 p := Classical.byContradiction (fun z => h293 (hth.trans (if_neg z)))
    refine pm_aload_n dX7_mails_296 rfl ?_
    refine pm_g_Model_place hm.1 pm_f_X7_32 (hm.2.1 7 (by decide)).1 dX7_mails_297 ?_
    refine pm_iload_n dX7_mails_300 rfl ?_
    refine pm_iload dX7_mails_301 rfl ?_
    refine mm_iastore (n := _) hm (by decide) rfl (by show _ < 60; omega) dX7_mails_303 (fun S303 hm303 => ?_)
    refine pm_goto (tgt := 451) dX7_mails_304 (by decide) ?_
    subst hQ9
    refine pm_vret dX7_mails_451 ?_
    first
    | (rw [if_pos gt] at hW; subst hW; exact ⟨_, hm303, hr.b0 (s := 7) (i := 2) hp rfl (by decide)⟩)
    | (rw [if_neg gt] at hW; subst hW; exact ⟨_, h311, hr.wt0 hp (by omega)⟩)

set_option maxHeartbeats 4000000 in
set_option maxRecDepth 100000 in
theorem m_28 (G : pm_G) (l : Launch) (bs : Nat) (A : Nat → Nat) (E : pm_S) (M : pm_N) (b : Nat) (Z : az) (s : Nat) (p ja jb jc : Nat) (a bb c : Int32) (vo v9 v10 v11 : Value) (W : az) (S : pm_S) (hm : pm_MX M S A E) (hr : mR b Z M) (hI : zI s Z) (hp : p < az_a Z 0) (h0 : az_b Z 1 p = 0) (hja : ja < 8) (hjb : jb < 8) (hjc : jc < 8) (th : Int32) (hth : th = if az_b Z 10 p < az_b Z 9 p then 1 else 0) (hW : (if az_b Z 10 p < az_b Z 9 p then zAt Z p (pm_mod a 300) else if zKind (az_t Z 0 p jb) ≠ 0 then zBad Z p else if zVal (az_t Z 0 p jb) < 1 then zAt (zs_b Z 10 p 0) p (pm_mod c 300) else zs_e (zs_b (zs_b (zs_b Z 1 p 1) 3 p (pm_mod a 300)) 4 p (pm_mod c 300)) 1 p (some (az_a Z 6 + (zVal (az_t Z 0 p jb)).toInt.toNat))) = W) : pm_W G l bs yX7_mails.cls cX7_mails 11 false 5 0 0 (pm_xv (fun S2 => ∃ M2, pm_MX M2 S2 A E ∧ mR b W M2)) 317 [.ref (A 50), .int (nI p), vo, .int (nI (8 * p + ja)), .int (nI (8 * p + jb)), .int (nI (pm_mod c 300)), .int (nI (pm_mod a 300)), .int th, .int (nI (480 + 40 * p + az_b Z 10 p)), v9, v10] [] S := by
  have hn := hI.1
  have hsm := hI.sm
  have h9b := hI.b9
  have h02 : az_b Z 1 p ≠ 2 := by omega
  have hsa := hr.G hp hja
  have hsb := hr.G hp hjb
  have hsc := hr.G hp hjc
  have hwa := hI.rg hp hja
  have hwb := hI.rg hp hjb
  have hwc := hI.rg hp hjc
  have hla := hwa.len
  have hlb := hwb.len
  have hlc := hwc.len
  generalize hQ9 : pm_xv (fun S2 => ∃ M2, pm_MX M2 S2 A E ∧ mR b W M2) = Q9
  have h6 := hI.2.2.2.2.2.2.2.2.2.2.2.2.2
  refine pm_iload dX7_mails_317 rfl ?_
  refine pm_if_eq (tgt := 333) dX7_mails_319 (by decide) (fun h319 => ?_) (fun h319 => ?_)
  · skip
    have gt : ¬ az_b Z 10 p < az_b Z 9 p := fun z => by rw [hth, if_pos z] at h319; cases h319
    refine pm_aload_n dX7_mails_333 rfl ?_
    refine pm_iload_n dX7_mails_334 rfl ?_
    refine pm_aload_n dX7_mails_335 rfl ?_
    refine pm_iload dX7_mails_336 rfl ?_
    refine pm_iconst (v := 0) dX7_mails_338 (by decide) ?_
    refine pm_vi (c_X7_is G l bs A E M (8 * p + jb) 0 _ hm (by omega)) pm_y_X7_is pm_v_X7_is pm_m_X7_178 (c := 7) (r := (RX7, TX7, 41)) rfl rfl hm.1 dX7_mails_339 rfl rfl (by decide) (Nat.le_of_ble_eq_true rfl) (fun x339 S339 h339 => ?_)
    obtain ⟨rfl, rfl⟩ := h339
    refine pm_if_ne (tgt := 349) dX7_mails_342 (by decide) (fun h342 => ?_) (fun h342 => ?_)
    · skip
      have k0 : zKind (az_t Z 0 p jb) = 0 := (slK hsb hwb).1.mp (Classical.byContradiction (fun z => h342 (if_neg z)))
      refine pm_iconst (v := 0) dX7_mails_349 (by decide) ?_
      refine pm_vi (c_X7_bad G l bs A E M b Z s p _ _ hm hr hI hp h02 (by first | exact Or.inl rfl | exact Or.inr rfl)) pm_y_X7_bad pm_v_X7_bad pm_m_X7_202 (c := 7) (r := (RX7, TX7, 41)) rfl rfl hm.1 dX7_mails_350 rfl rfl (by decide) (Nat.le_of_ble_eq_true rfl) (fun x350 S350 h350 => ?_)
      obtain ⟨rfl, h350b⟩ := h350
      refine pm_if_eq (tgt := 359) dX7_mails_353 (by decide) (fun h353 => ?_) (fun h353 => ?_)
      · first
        | exact absurd h353 (by decide)
        | (skip
           rcases h350b with ⟨-, rfl⟩ | ⟨g0, -⟩
           case inr => exact absurd rfl g0
           refine pm_aload_n dX7_mails_359 rfl ?_
           refine pm_iload dX7_mails_360 rfl ?_
           refine pm_vi (c_X7_valueOf G l bs A E M (8 * p + jb) _ hm (by omega)) pm_y_X7_valueOf pm_v_X7_valueOf pm_m_X7_181 (c := 7) (r := (RX7, TX7, 41)) rfl rfl hm.1 dX7_mails_362 rfl rfl (by decide) (Nat.le_of_ble_eq_true rfl) (fun x362 S362 h362 => ?_)
           obtain ⟨rfl, rfl⟩ := h362
           rw [slV hsb hwb]
           refine pm_iconst (v := 1) dX7_mails_365 (by decide) ?_
           refine pm_icmp_ge (tgt := 387) dX7_mails_366 (by decide) (fun h366 => ?_) (fun h366 => ?_)
           · skip
             have kv : ¬ zVal (az_t Z 0 p jb) < 1 := Int32.not_lt.mpr h366
             obtain ⟨x9, hx9, ex9⟩ := nI_of (x := zVal (az_t Z 0 p jb)) (fun z => kv (Int32.lt_trans z (by decide)))
             refine pm_aload_n dX7_mails_387 rfl ?_
             refine pm_iload_n dX7_mails_388 rfl ?_
             refine pm_iload dX7_mails_389 rfl ?_
             refine pm_vv (c_X7_waits G l bs A E M p (nI (pm_mod a 300)) _ hm (by omega)) pm_y_X7_waits pm_v_X7_waits pm_m_X7_248 (c := 7) (r := (RX7, TX7, 41)) rfl rfl hm.1 dX7_mails_391 rfl rfl (by decide) (Nat.le_of_ble_eq_true rfl) (fun S391 h391 => ?_)
             have hm391 := h391
             refine pm_aload_n dX7_mails_394 rfl ?_
             refine pm_g_Model_lateTo hm391.1 pm_f_X7_72 (hm391.2.1 20 (by decide)).1 dX7_mails_395 ?_
             refine pm_iload_n dX7_mails_398 rfl ?_
             refine pm_iload dX7_mails_399 rfl ?_
             refine mm_iastore (n := _) hm391 (by decide) rfl (by show _ < 60; omega) dX7_mails_401 (fun S401 hm401 => ?_)
             refine pm_aload_n dX7_mails_402 rfl ?_
             refine pm_g_Model_time hm401.1 pm_f_X7_251 dX7_mails_403 ?_
             rw [hm401.f (g := 388) (f := 38) rfl]
             rw [mx_2, mx_2, mx_2, hr.A (i := 6) rfl]
             refine pm_i2l dX7_mails_406 ?_
             refine pm_aload_n dX7_mails_407 rfl ?_
             refine pm_iload dX7_mails_408 rfl ?_
             refine pm_vi (c_X7_valueOf G l bs A E _ (8 * p + jb) _ hm401 (by omega)) pm_y_X7_valueOf pm_v_X7_valueOf pm_m_X7_181 (c := 7) (r := (RX7, TX7, 41)) rfl rfl hm401.1 dX7_mails_410 rfl rfl (by decide) (Nat.le_of_ble_eq_true rfl) (fun x410 S410 h410 => ?_)
             obtain ⟨rfl, rfl⟩ := h410
             rw [mx_o (by decide), mx_o (by decide), mx_o (by decide), slV hsb hwb, ex9]
             refine pm_i2l dX7_mails_413 ?_
             rw [nI_l (n := az_a Z 6) (by omega), nI_l hx9]
             refine pm_ladd dX7_mails_414 ?_
             rw [lN_add]
             refine pm_lstore dX7_mails_415 (by decide) ?_
             dsimp only [List.set]
             refine pm_aload_n dX7_mails_417 rfl ?_
             refine pm_g_Model_due hm401.1 pm_f_X7_75 (hm401.2.1 21 (by decide)).1 dX7_mails_418 ?_
             refine pm_iload_n dX7_mails_421 rfl ?_
             refine pm_lload dX7_mails_422 rfl ?_
             refine pm_ldc2 pm_cl_X7_254 dX7_mails_424 ?_
             refine pm_lcmp dX7_mails_427 ?_
             refine pm_if_le (tgt := 437) dX7_mails_428 (by decide) (fun h428 => ?_) (fun h428 => ?_)
             · skip
               have gu : az_a Z 6 + x9 ≤ 2000000000 := by rcases Nat.lt_or_ge 2000000000 (az_a Z 6 + x9) with q | q; exact absurd ((lg_gt _ _).mpr (Int64.not_le.mp (fun y => absurd ((pk_lLE (a := az_a Z 6 + x9) (b := 2000000000) (by omega) (by omega)).mp y) (by omega)))) (Int32.not_lt.mpr h428); exact q
               refine pm_lload dX7_mails_437 rfl ?_
               refine pm_l2i dX7_mails_439 ?_
               try rw [lN_i, show nI (az_a Z 6 + x9) = nI (min (az_a Z 6 + x9) 2000000000) from by rw [Nat.min_eq_left gu]]
               try rw [show (2000000000 : Int32) = nI (min (az_a Z 6 + x9) 2000000000) from by rw [Nat.min_eq_right gu]; rfl]
               refine mm_iastore (n := _) hm401 (by decide) rfl (by show _ < 60; omega) dX7_mails_440 (fun S440 hm440 => ?_)
               refine pm_aload_n dX7_mails_441 rfl ?_
               refine pm_g_Model_timed hm440.1 pm_f_X7_78 (hm440.2.1 22 (by decide)).1 dX7_mails_442 ?_
               refine pm_iload_n dX7_mails_445 rfl ?_
               refine pm_iconst (v := 1) dX7_mails_446 (by decide) ?_
               refine mm_bastore (n := _) hm440 (by decide) rfl (by show _ < 60; omega) (Or.inr rfl) dX7_mails_447 (fun S447 hm447 => ?_)
               refine pm_goto (tgt := 451) dX7_mails_448 (by decide) ?_
               subst hQ9
               refine pm_vret dX7_mails_451 ?_
               first
               | (rw [if_pos gt] at hW; subst hW; exact ⟨_, hm329, hr.b0 (s := 7) (i := 2) hp rfl (by decide)⟩)
               | (rw [if_neg gt, if_pos k0] at hW; subst hW; exact ⟨M350, hm350, hr350⟩)
               | (rw [if_neg gt, if_neg (fun z => z k0), if_pos kv] at hW; subst hW; exact ⟨_, hm383, by rw [mx_comm (Or.inl (by decide))]; exact (hr.b0 (s := 12) (i := 10) (v := 0) hp rfl (by decide)).b0 (s := 7) (i := 2) hp rfl (by decide)⟩)
               | (rw [if_neg gt, if_neg (fun z => z k0), if_neg kv, ex9, nI_toInt hx9, Int.toNat_natCast] at hW; subst hW; exact ⟨_, hm447, hr.wtT hp⟩)
             · skip
               have gu : 2000000000 ≤ az_a Z 6 + x9 := by rcases Nat.lt_or_ge 2000000000 (az_a Z 6 + x9) with q | q; omega; exact absurd (Int32.not_lt.mp (fun y => absurd ((pk_lLE (a := az_a Z 6 + x9) (b := 2000000000) (by omega) (by omega)).mpr q) (Int64.not_le.mpr ((lg_gt _ _).mp y)))) h428
               refine pm_ldcw pm_cn_X7_256 dX7_mails_431 ?_
               refine pm_goto (tgt := 440) dX7_mails_434 (by decide) ?_
               try rw [lN_i, show nI (az_a Z 6 + x9) = nI (min (az_a Z 6 + x9) 2000000000) from by rw [Nat.min_eq_left gu]]
               try rw [show (2000000000 : Int32) = nI (min (az_a Z 6 + x9) 2000000000) from by rw [Nat.min_eq_right gu]; rfl]
               refine mm_iastore (n := _) hm401 (by decide) rfl (by show _ < 60; omega) dX7_mails_440 (fun S440 hm440 => ?_)
               refine pm_aload_n dX7_mails_441 rfl ?_
               refine pm_g_Model_timed hm440.1 pm_f_X7_78 (hm440.2.1 22 (by decide)).1 dX7_mails_442 ?_
               refine pm_iload_n dX7_mails_445 rfl ?_
               refine pm_iconst (v := 1) dX7_mails_446 (by decide) ?_
               refine mm_bastore (n := _) hm440 (by decide) rfl (by show _ < 60; omega) (Or.inr rfl) dX7_mails_447 (fun S447 hm447 => ?_)
               refine pm_goto (tgt := 451) dX7_mails_448 (by decide) ?_
               subst hQ9
               refine pm_vret dX7_mails_451 ?_
               first
               | (rw [if_pos gt] at hW; subst hW; exact ⟨_, hm329, hr.b0 (s := 7) (i := 2) hp rfl (by decide)⟩)
               | (rw [if_neg gt, if_pos k0] at hW; subst hW; exact ⟨M350, hm350, hr350⟩)
               | (rw [if_neg gt, if_neg (fun z => z k0), if_pos kv] at hW; subst hW; exact ⟨_, hm383, by rw [mx_comm (Or.inl (by decide))]; exact (hr.b0 (s := 12) (i := 10) (v := 0) hp rfl (by decide)).b0 (s := 7) (i := 2) hp rfl (by decide)⟩)
               | (rw [if_neg gt, if_neg (fun z => z k0), if_neg kv, ex9, nI_toInt hx9, Int.toNat_natCast] at hW; subst hW; exact ⟨_, hm447, hr.wtT hp⟩)
           · skip
             have kv : zVal (az_t Z 0 p jb) < 1 := Int32.not_le.mp h366
             refine pm_aload_n dX7_mails_369 rfl ?_
             refine pm_g_Model_place hm.1 pm_f_X7_32 (hm.2.1 7 (by decide)).1 dX7_mails_370 ?_
             refine pm_iload_n dX7_mails_373 rfl ?_
             refine pm_iload dX7_mails_374 rfl ?_
             refine mm_iastore (n := _) hm (by decide) rfl (by show _ < 60; omega) dX7_mails_376 (fun S376 hm376 => ?_)
             refine pm_aload_n dX7_mails_377 rfl ?_
             refine pm_g_Model_pointer hm376.1 pm_f_X7_48 (hm376.2.1 12 (by decide)).1 dX7_mails_378 ?_
             refine pm_iload_n dX7_mails_381 rfl ?_
             refine pm_iconst (v := 0) dX7_mails_382 (by decide) ?_
             refine mm_iastore (n := _) hm376 (by decide) rfl (by show _ < 60; omega) dX7_mails_383 (fun S383 hm383 => ?_)
             refine pm_goto (tgt := 451) dX7_mails_384 (by decide) ?_
             subst hQ9
             refine pm_vret dX7_mails_451 ?_
             first
             | (rw [if_pos gt] at hW; subst hW; exact ⟨_, hm329, hr.b0 (s := 7) (i := 2) hp rfl (by decide)⟩)
             | (rw [if_neg gt, if_pos k0] at hW; subst hW; exact ⟨M350, hm350, hr350⟩)
             | (rw [if_neg gt, if_neg (fun z => z k0), if_pos kv] at hW; subst hW; exact ⟨_, hm383, by rw [mx_comm (Or.inl (by decide))]; exact (hr.b0 (s := 12) (i := 10) (v := 0) hp rfl (by decide)).b0 (s := 7) (i := 2) hp rfl (by decide)⟩)
             | (rw [if_neg gt, if_neg (fun z => z k0), if_neg kv, ex9, nI_toInt hx9, Int.toNat_natCast] at hW; subst hW; exact ⟨_, hm447, hr.wtT hp⟩))
      · first
        | exact absurd rfl h353
        | (skip
           rcases h350b with ⟨g0, -⟩ | ⟨-, M350, hm350, hr350⟩
           case inl => exact absurd g0 (by decide)
           refine pm_goto (tgt := 451) dX7_mails_356 (by decide) ?_
           subst hQ9
           refine pm_vret dX7_mails_451 ?_
           first
           | (rw [if_pos gt] at hW; subst hW; exact ⟨_, hm329, hr.b0 (s := 7) (i := 2) hp rfl (by decide)⟩)
           | (rw [if_neg gt, if_pos k0] at hW; subst hW; exact ⟨M350, hm350, hr350⟩)
           | (rw [if_neg gt, if_neg (fun z => z k0), if_pos kv] at hW; subst hW; exact ⟨_, hm383, by rw [mx_comm (Or.inl (by decide))]; exact (hr.b0 (s := 12) (i := 10) (v := 0) hp rfl (by decide)).b0 (s := 7) (i := 2) hp rfl (by decide)⟩)
           | (rw [if_neg gt, if_neg (fun z => z k0), if_neg kv, ex9, nI_toInt hx9, Int.toNat_natCast] at hW; subst hW; exact ⟨_, hm447, hr.wtT hp⟩))
    · skip
      have k0 : ¬ zKind (az_t Z 0 p jb) = 0 := fun z => by rw [if_pos ((slK hsb hwb).1.mpr z)] at h342; cases h342
      refine pm_iconst (v := 1) dX7_mails_345 (by decide) ?_
      refine pm_goto (tgt := 350) dX7_mails_346 (by decide) ?_
      refine pm_vi (c_X7_bad G l bs A E M b Z s p _ _ hm hr hI hp h02 (by first | exact Or.inl rfl | exact Or.inr rfl)) pm_y_X7_bad pm_v_X7_bad pm_m_X7_202 (c := 7) (r := (RX7, TX7, 41)) rfl rfl hm.1 dX7_mails_350 rfl rfl (by decide) (Nat.le_of_ble_eq_true rfl) (fun x350 S350 h350 => ?_)
      obtain ⟨rfl, h350b⟩ := h350
      refine pm_if_eq (tgt := 359) dX7_mails_353 (by decide) (fun h353 => ?_) (fun h353 => ?_)
      · first
        | exact absurd h353 (by decide)
        | (skip
           rcases h350b with ⟨-, rfl⟩ | ⟨g0, -⟩
           case inr => exact absurd rfl g0
           refine pm_aload_n dX7_mails_359 rfl ?_
           refine pm_iload dX7_mails_360 rfl ?_
           refine pm_vi (c_X7_valueOf G l bs A E M (8 * p + jb) _ hm (by omega)) pm_y_X7_valueOf pm_v_X7_valueOf pm_m_X7_181 (c := 7) (r := (RX7, TX7, 41)) rfl rfl hm.1 dX7_mails_362 rfl rfl (by decide) (Nat.le_of_ble_eq_true rfl) (fun x362 S362 h362 => ?_)
           obtain ⟨rfl, rfl⟩ := h362
           rw [slV hsb hwb]
           refine pm_iconst (v := 1) dX7_mails_365 (by decide) ?_
           refine pm_icmp_ge (tgt := 387) dX7_mails_366 (by decide) (fun h366 => ?_) (fun h366 => ?_)
           · skip
             have kv : ¬ zVal (az_t Z 0 p jb) < 1 := Int32.not_lt.mpr h366
             obtain ⟨x9, hx9, ex9⟩ := nI_of (x := zVal (az_t Z 0 p jb)) (fun z => kv (Int32.lt_trans z (by decide)))
             refine pm_aload_n dX7_mails_387 rfl ?_
             refine pm_iload_n dX7_mails_388 rfl ?_
             refine pm_iload dX7_mails_389 rfl ?_
             refine pm_vv (c_X7_waits G l bs A E M p (nI (pm_mod a 300)) _ hm (by omega)) pm_y_X7_waits pm_v_X7_waits pm_m_X7_248 (c := 7) (r := (RX7, TX7, 41)) rfl rfl hm.1 dX7_mails_391 rfl rfl (by decide) (Nat.le_of_ble_eq_true rfl) (fun S391 h391 => ?_)
             have hm391 := h391
             refine pm_aload_n dX7_mails_394 rfl ?_
             refine pm_g_Model_lateTo hm391.1 pm_f_X7_72 (hm391.2.1 20 (by decide)).1 dX7_mails_395 ?_
             refine pm_iload_n dX7_mails_398 rfl ?_
             refine pm_iload dX7_mails_399 rfl ?_
             refine mm_iastore (n := _) hm391 (by decide) rfl (by show _ < 60; omega) dX7_mails_401 (fun S401 hm401 => ?_)
             refine pm_aload_n dX7_mails_402 rfl ?_
             refine pm_g_Model_time hm401.1 pm_f_X7_251 dX7_mails_403 ?_
             rw [hm401.f (g := 388) (f := 38) rfl]
             rw [mx_2, mx_2, mx_2, hr.A (i := 6) rfl]
             refine pm_i2l dX7_mails_406 ?_
             refine pm_aload_n dX7_mails_407 rfl ?_
             refine pm_iload dX7_mails_408 rfl ?_
             refine pm_vi (c_X7_valueOf G l bs A E _ (8 * p + jb) _ hm401 (by omega)) pm_y_X7_valueOf pm_v_X7_valueOf pm_m_X7_181 (c := 7) (r := (RX7, TX7, 41)) rfl rfl hm401.1 dX7_mails_410 rfl rfl (by decide) (Nat.le_of_ble_eq_true rfl) (fun x410 S410 h410 => ?_)
             obtain ⟨rfl, rfl⟩ := h410
             rw [mx_o (by decide), mx_o (by decide), mx_o (by decide), slV hsb hwb, ex9]
             refine pm_i2l dX7_mails_413 ?_
             rw [nI_l (n := az_a Z 6) (by omega), nI_l hx9]
             refine pm_ladd dX7_mails_414 ?_
             rw [lN_add]
             refine pm_lstore dX7_mails_415 (by decide) ?_
             dsimp only [List.set]
             refine pm_aload_n dX7_mails_417 rfl ?_
             refine pm_g_Model_due hm401.1 pm_f_X7_75 (hm401.2.1 21 (by decide)).1 dX7_mails_418 ?_
             refine pm_iload_n dX7_mails_421 rfl ?_
             refine pm_lload dX7_mails_422 rfl ?_
             refine pm_ldc2 pm_cl_X7_254 dX7_mails_424 ?_
             refine pm_lcmp dX7_mails_427 ?_
             refine pm_if_le (tgt := 437) dX7_mails_428 (by decide) (fun h428 => ?_) (fun h428 => ?_)
             · skip
               have gu : az_a Z 6 + x9 ≤ 2000000000 := by rcases Nat.lt_or_ge 2000000000 (az_a Z 6 + x9) with q | q; exact absurd ((lg_gt _ _).mpr (Int64.not_le.mp (fun y => absurd ((pk_lLE (a := az_a Z 6 + x9) (b := 2000000000) (by omega) (by omega)).mp y) (by omega)))) (Int32.not_lt.mpr h428); exact q
               refine pm_lload dX7_mails_437 rfl ?_
               refine pm_l2i dX7_mails_439 ?_
               try rw [lN_i, show nI (az_a Z 6 + x9) = nI (min (az_a Z 6 + x9) 2000000000) from by rw [Nat.min_eq_left gu]]
               try rw [show (2000000000 : Int32) = nI (min (az_a Z 6 + x9) 2000000000) from by rw [Nat.min_eq_right gu]; rfl]
               refine mm_iastore (n := _) hm401 (by decide) rfl (by show _ < 60; omega) dX7_mails_440 (fun S440 hm440 => ?_)
               refine pm_aload_n dX7_mails_441 rfl ?_
               refine pm_g_Model_timed hm440.1 pm_f_X7_78 (hm440.2.1 22 (by decide)).1 dX7_mails_442 ?_
               refine pm_iload_n dX7_mails_445 rfl ?_
               refine pm_iconst (v := 1) dX7_mails_446 (by decide) ?_
               refine mm_bastore (n := _) hm440 (by decide) rfl (by show _ < 60; omega) (Or.inr rfl) dX7_mails_447 (fun S447 hm447 => ?_)
               refine pm_goto (tgt := 451) dX7_mails_448 (by decide) ?_
               subst hQ9
               refine pm_vret dX7_mails_451 ?_
               first
               | (rw [if_pos gt] at hW; subst hW; exact ⟨_, hm329, hr.b0 (s := 7) (i := 2) hp rfl (by decide)⟩)
               | (rw [if_neg gt, if_pos k0] at hW; subst hW; exact ⟨M350, hm350, hr350⟩)
               | (rw [if_neg gt, if_neg (fun z => z k0), if_pos kv] at hW; subst hW; exact ⟨_, hm383, by rw [mx_comm (Or.inl (by decide))]; exact (hr.b0 (s := 12) (i := 10) (v := 0) hp rfl (by decide)).b0 (s := 7) (i := 2) hp rfl (by decide)⟩)
               | (rw [if_neg gt, if_neg (fun z => z k0), if_neg kv, ex9, nI_toInt hx9, Int.toNat_natCast] at hW; subst hW; exact ⟨_, hm447, hr.wtT hp⟩)
             · skip
               have gu : 2000000000 ≤ az_a Z 6 + x9 := by rcases Nat.lt_or_ge 2000000000 (az_a Z 6 + x9) with q | q; omega; exact absurd (Int32.not_lt.mp (fun y => absurd ((pk_lLE (a := az_a Z 6 + x9) (b := 2000000000) (by omega) (by omega)).mpr q) (Int64.not_le.mpr ((lg_gt _ _).mp y)))) h428
               refine pm_ldcw pm_cn_X7_256 dX7_mails_431 ?_
               refine pm_goto (tgt := 440) dX7_mails_434 (by decide) ?_
               try rw [lN_i, show nI (az_a Z 6 + x9) = nI (min (az_a Z 6 + x9) 2000000000) from by rw [Nat.min_eq_left gu]]
               try rw [show (2000000000 : Int32) = nI (min (az_a Z 6 + x9) 2000000000) from by rw [Nat.min_eq_right gu]; rfl]
               refine mm_iastore (n := _) hm401 (by decide) rfl (by show _ < 60; omega) dX7_mails_440 (fun S440 hm440 => ?_)
               refine pm_aload_n dX7_mails_441 rfl ?_
               refine pm_g_Model_timed hm440.1 pm_f_X7_78 (hm440.2.1 22 (by decide)).1 dX7_mails_442 ?_
               refine pm_iload_n dX7_mails_445 rfl ?_
               refine pm_iconst (v := 1) dX7_mails_446 (by decide) ?_
               refine mm_bastore (n := _) hm440 (by decide) rfl (by show _ < 60; omega) (Or.inr rfl) dX7_mails_447 (fun S447 hm447 => ?_)
               refine pm_goto (tgt := 451) dX7_mails_448 (by decide) ?_
               subst hQ9
               refine pm_vret dX7_mails_451 ?_
               first
               | (rw [if_pos gt] at hW; subst hW; exact ⟨_, hm329, hr.b0 (s := 7) (i := 2) hp rfl (by decide)⟩)
               | (rw [if_neg gt, if_pos k0] at hW; subst hW; exact ⟨M350, hm350, hr350⟩)
               | (rw [if_neg gt, if_neg (fun z => z k0), if_pos kv] at hW; subst hW; exact ⟨_, hm383, by rw [mx_comm (Or.inl (by decide))]; exact (hr.b0 (s := 12) (i := 10) (v := 0) hp rfl (by decide)).b0 (s := 7) (i := 2) hp rfl (by decide)⟩)
               | (rw [if_neg gt, if_neg (fun z => z k0), if_neg kv, ex9, nI_toInt hx9, Int.toNat_natCast] at hW; subst hW; exact ⟨_, hm447, hr.wtT hp⟩)
           · skip
             have kv : zVal (az_t Z 0 p jb) < 1 := Int32.not_le.mp h366
             refine pm_aload_n dX7_mails_369 rfl ?_
             refine pm_g_Model_place hm.1 pm_f_X7_32 (hm.2.1 7 (by decide)).1 dX7_mails_370 ?_
             refine pm_iload_n dX7_mails_373 rfl ?_
             refine pm_iload dX7_mails_374 rfl ?_
             refine mm_iastore (n := _) hm (by decide) rfl (by show _ < 60; omega) dX7_mails_376 (fun S376 hm376 => ?_)
             refine pm_aload_n dX7_mails_377 rfl ?_
             refine pm_g_Model_pointer hm376.1 pm_f_X7_48 (hm376.2.1 12 (by decide)).1 dX7_mails_378 ?_
             refine pm_iload_n dX7_mails_381 rfl ?_
             refine pm_iconst (v := 0) dX7_mails_382 (by decide) ?_
             refine mm_iastore (n := _) hm376 (by decide) rfl (by show _ < 60; omega) dX7_mails_383 (fun S383 hm383 => ?_)
             refine pm_goto (tgt := 451) dX7_mails_384 (by decide) ?_
             subst hQ9
             refine pm_vret dX7_mails_451 ?_
             first
             | (rw [if_pos gt] at hW; subst hW; exact ⟨_, hm329, hr.b0 (s := 7) (i := 2) hp rfl (by decide)⟩)
             | (rw [if_neg gt, if_pos k0] at hW; subst hW; exact ⟨M350, hm350, hr350⟩)
             | (rw [if_neg gt, if_neg (fun z => z k0), if_pos kv] at hW; subst hW; exact ⟨_, hm383, by rw [mx_comm (Or.inl (by decide))]; exact (hr.b0 (s := 12) (i := 10) (v := 0) hp rfl (by decide)).b0 (s := 7) (i := 2) hp rfl (by decide)⟩)
             | (rw [if_neg gt, if_neg (fun z => z k0), if_neg kv, ex9, nI_toInt hx9, Int.toNat_natCast] at hW; subst hW; exact ⟨_, hm447, hr.wtT hp⟩))
      · first
        | exact absurd rfl h353
        | (skip
           rcases h350b with ⟨g0, -⟩ | ⟨-, M350, hm350, hr350⟩
           case inl => exact absurd g0 (by decide)
           refine pm_goto (tgt := 451) dX7_mails_356 (by decide) ?_
           subst hQ9
           refine pm_vret dX7_mails_451 ?_
           first
           | (rw [if_pos gt] at hW; subst hW; exact ⟨_, hm329, hr.b0 (s := 7) (i := 2) hp rfl (by decide)⟩)
           | (rw [if_neg gt, if_pos k0] at hW; subst hW; exact ⟨M350, hm350, hr350⟩)
           | (rw [if_neg gt, if_neg (fun z => z k0), if_pos kv] at hW; subst hW; exact ⟨_, hm383, by rw [mx_comm (Or.inl (by decide))]; exact (hr.b0 (s := 12) (i := 10) (v := 0) hp rfl (by decide)).b0 (s := 7) (i := 2) hp rfl (by decide)⟩)
           | (rw [if_neg gt, if_neg (fun z => z k0), if_neg kv, ex9, nI_toInt hx9, Int.toNat_natCast] at hW; subst hW; exact ⟨_, hm447, hr.wtT hp⟩))
  · skip
    have gt : az_b Z 10 p < az_b Z 9 p := Classical.byContradiction (fun z => h319 (hth.trans (if_neg z)))
    refine pm_aload_n dX7_mails_322 rfl ?_
    refine pm_g_Model_place hm.1 pm_f_X7_32 (hm.2.1 7 (by decide)).1 dX7_mails_323 ?_
    refine pm_iload_n dX7_mails_326 rfl ?_
    refine pm_iload dX7_mails_327 rfl ?_
    refine mm_iastore (n := _) hm (by decide) rfl (by show _ < 60; omega) dX7_mails_329 (fun S329 hm329 => ?_)
    refine pm_goto (tgt := 451) dX7_mails_330 (by decide) ?_
    subst hQ9
    refine pm_vret dX7_mails_451 ?_
    first
    | (rw [if_pos gt] at hW; subst hW; exact ⟨_, hm329, hr.b0 (s := 7) (i := 2) hp rfl (by decide)⟩)
    | (rw [if_neg gt, if_pos k0] at hW; subst hW; exact ⟨M350, hm350, hr350⟩)
    | (rw [if_neg gt, if_neg (fun z => z k0), if_pos kv] at hW; subst hW; exact ⟨_, hm383, by rw [mx_comm (Or.inl (by decide))]; exact (hr.b0 (s := 12) (i := 10) (v := 0) hp rfl (by decide)).b0 (s := 7) (i := 2) hp rfl (by decide)⟩)
    | (rw [if_neg gt, if_neg (fun z => z k0), if_neg kv, ex9, nI_toInt hx9, Int.toNat_natCast] at hW; subst hW; exact ⟨_, hm447, hr.wtT hp⟩)

set_option maxHeartbeats 4000000 in
set_option maxRecDepth 100000 in
theorem m_25 (G : pm_G) (l : Launch) (bs : Nat) (A : Nat → Nat) (E : pm_S) (M : pm_N) (b : Nat) (Z : az) (s : Nat) (p ja jb jc : Nat) (a bb c : Int32) (vo v9 v10 v11 : Value) (W : az) (S : pm_S) (hm : pm_MX M S A E) (hr : mR b Z M) (hI : zI s Z) (hp : p < az_a Z 0) (h0 : az_b Z 1 p = 0) (hja : ja < 8) (hjb : jb < 8) (hjc : jc < 8) (th : Int32) (hth : th = if az_b Z 10 p < az_b Z 9 p then 1 else 0) (hW : zs_b (if az_b Z 10 p < az_b Z 9 p then zs_b (zs_m Z p (fun k => if k < az_b Z 10 p then az_t Z 2 p k else az_t Z 2 p (k + 1))) 9 p (az_b Z 9 p - 1) else Z) 10 p 0 = W) : pm_W G l bs yX7_mails.cls cX7_mails 11 false 5 0 0 (pm_xv (fun S2 => ∃ M2, pm_MX M2 S2 A E ∧ mR b W M2)) 185 [.ref (A 50), .int (nI p), vo, .int (nI (8 * p + ja)), .int (nI (8 * p + jb)), .int (nI (pm_mod c 300)), .int (nI (pm_mod a 300)), .int th, .int (nI (480 + 40 * p + az_b Z 10 p)), v9, v10] [] S := by
  have hn := hI.1
  have hsm := hI.sm
  have h9b := hI.b9
  have h02 : az_b Z 1 p ≠ 2 := by omega
  have hsa := hr.G hp hja
  have hsb := hr.G hp hjb
  have hsc := hr.G hp hjc
  have hwa := hI.rg hp hja
  have hwb := hI.rg hp hjb
  have hwc := hI.rg hp hjc
  have hla := hwa.len
  have hlb := hwb.len
  have hlc := hwc.len
  generalize hQ9 : pm_xv (fun S2 => ∃ M2, pm_MX M2 S2 A E ∧ mR b W M2) = Q9
  have b9 := h9b p hp
  have b10 : az_b Z 10 p ≤ az_b Z 9 p := (hI.2.2.1 p hp).1
  have fin : ∀ (k : Nat) (M9 : pm_N) (S9 : pm_S), az_b Z 10 p ≤ k → az_b Z 9 p ≤ k + 1 → pm_MX M9 S9 A E → (∀ s j, 2 ≤ s → M9.1 s j = M.1 s j) → (∀ f, M9.2 f = M.2 f) → (∀ t w, ¬ (480 + 40 * p ≤ t ∧ t < 520 + 40 * p) → sl M t w → sl M9 t w) → (∀ j, j < k → j < az_b Z 9 p → sl M9 (480 + 40 * p + j) (if j < az_b Z 10 p then az_t Z 2 p j else az_t Z 2 p (j + 1))) → pm_W G l bs yX7_mails.cls cX7_mails 11 false 5 0 0 Q9 240 [.ref (A 50), .int (nI p), vo, .int (nI (8 * p + ja)), .int (nI (8 * p + jb)), .int (nI (pm_mod c 300)), .int (nI (pm_mod a 300)), .int th, .int (nI (480 + 40 * p + az_b Z 10 p)), .int (nI k), v10] [] S9 := by
    intro k M9 S9 hkp h8 hm9 e19 e29 e39 e59
    refine pm_aload_n dX7_mails_240 rfl ?_
    refine pm_g_Model_mail hm9.1 pm_f_X7_45 (hm9.2.1 11 (by decide)).1 dX7_mails_241 ?_
    refine pm_iload_n dX7_mails_244 rfl ?_
    refine pm_dup2 dX7_mails_245 ?_
    refine mm_iaload (n := _) hm9 (by decide) rfl (by show _ < 60; omega) dX7_mails_246 ?_
    refine pm_iload dX7_mails_247 rfl ?_
    refine pm_if_eq (tgt := 256) dX7_mails_249 (by decide) (fun h249 => ?_) (fun h249 => ?_)
    · skip
      have gt : ¬ az_b Z 10 p < az_b Z 9 p := fun z => by rw [hth, if_pos z] at h249; cases h249
      refine pm_iconst (v := 0) dX7_mails_256 (by decide) ?_
      refine pm_isub dX7_mails_257 ?_
      rw [e19 11 p (by decide), hr.B (i := 9) hp rfl]
      try rw [show (1 : Int32) = nI 1 from rfl, pk_sub (show 1 ≤ az_b Z 9 p by omega)]
      try rw [show nI (az_b Z 9 p) - 0 = nI (az_b Z 9 p) from by rw [show (0 : Int32) = nI 0 from rfl, pk_sub (Nat.zero_le _)]; rfl]
      refine mm_iastore (n := _) hm9 (by decide) rfl (by show _ < 60; omega) dX7_mails_258 (fun S258 hm258 => ?_)
      refine pm_aload_n dX7_mails_259 rfl ?_
      refine pm_g_Model_pointer hm258.1 pm_f_X7_48 (hm258.2.1 12 (by decide)).1 dX7_mails_260 ?_
      refine pm_iload_n dX7_mails_263 rfl ?_
      refine pm_iconst (v := 0) dX7_mails_264 (by decide) ?_
      refine mm_iastore (n := _) hm258 (by decide) rfl (by show _ < 60; omega) dX7_mails_265 (fun S265 hm265 => ?_)
      refine pm_goto (tgt := 451) dX7_mails_266 (by decide) ?_
      subst hQ9
      refine pm_vret dX7_mails_451 ?_
      first
      | (rw [if_pos gt] at hW
         subst hW
         refine ⟨_, hm265, ?_⟩
         have h1 := hr.dn (s := 11) (i := 9) (v := az_b Z 9 p - 1) hp rfl (by decide) (by omega)
         have h2 := h1.tm (M2 := mx M9 11 p (nI (az_b Z 9 p - 1))) (p := p) (g := fun k => if k < az_b Z 10 p then az_t Z 2 p k else az_t Z 2 p (k + 1)) (fun s j hs => by rw [mx_1, mx_1, e19 s j hs]) (funext fun f => e29 f) (fun q hq => by
           have hq : q < az_a Z 0 := hq
           have := h9b q hq
           obtain ⟨a1, a2, a3⟩ := hr.2.2.2.2.2.2.2.2.2.2.1 q hq
           have cg : ∀ t w, sl M9 t w → sl (mx M9 11 p (nI (az_b Z 9 p - 1))) t w := fun t w h => sl_x (by decide) h
           refine ⟨fun j hj => ?_, fun j hj => ?_, fun hd => ?_⟩
           · rw [z_t_m, if_neg (fun z => by omega)]; exact cg _ _ (e39 _ _ (by omega) (a1 j hj))
           · rw [z_t_m]
             by_cases e : q = p
             · rw [if_pos ⟨rfl, e⟩, e]
               rw [e, z_b_m, z_b_b, if_pos ⟨rfl, rfl⟩] at hj
               exact cg _ _ (e59 j (by omega) (by omega))
             · rw [if_neg (fun z => e z.2)]
               rw [z_b_m, z_b_b, if_neg (fun z => e z.2)] at hj
               exact cg _ _ (e39 _ _ (by omega) (a2 j hj))
           · rw [z_t_m, if_neg (fun z => by omega)]
             rw [z_b_m, z_b_bne (by decide)] at hd
             exact cg _ _ (e39 _ _ (by omega) (a3 hd)))
         rw [zm_b] at h2
         exact h2.b0 (s := 12) (i := 10) (v := 0) hp rfl (by decide))
      | (rw [if_neg gt] at hW
         subst hW
         refine ⟨_, hm265, ?_⟩
         have h1 : mR b Z M9 := hr.tt0 e19 (funext fun f => e29 f) (fun q hq => by
           have := h9b q hq
           obtain ⟨a1, a2, a3⟩ := hr.2.2.2.2.2.2.2.2.2.2.1 q hq
           refine ⟨fun j hj => e39 _ _ (by omega) (a1 j hj), fun j hj => ?_, fun hd => e39 _ _ (by omega) (a3 hd)⟩
           by_cases e : q = p
           · rw [e] at hj ⊢
             have q := e59 j (by omega) (by omega)
             rw [if_pos (by omega)] at q
             exact q
           · exact e39 _ _ (by omega) (a2 j hj))
         have h2 := h1.dn (s := 11) (i := 9) (v := az_b Z 9 p) hp rfl (by decide) (Nat.le_refl _)
         rw [zb_id _ rfl] at h2
         exact h2.b0 (s := 12) (i := 10) (v := 0) hp rfl (by decide))
    · skip
      have gt : az_b Z 10 p < az_b Z 9 p := Classical.byContradiction (fun z => h249 (hth.trans (if_neg z)))
      refine pm_iconst (v := 1) dX7_mails_252 (by decide) ?_
      refine pm_goto (tgt := 257) dX7_mails_253 (by decide) ?_
      refine pm_isub dX7_mails_257 ?_
      rw [e19 11 p (by decide), hr.B (i := 9) hp rfl]
      try rw [show (1 : Int32) = nI 1 from rfl, pk_sub (show 1 ≤ az_b Z 9 p by omega)]
      try rw [show nI (az_b Z 9 p) - 0 = nI (az_b Z 9 p) from by rw [show (0 : Int32) = nI 0 from rfl, pk_sub (Nat.zero_le _)]; rfl]
      refine mm_iastore (n := _) hm9 (by decide) rfl (by show _ < 60; omega) dX7_mails_258 (fun S258 hm258 => ?_)
      refine pm_aload_n dX7_mails_259 rfl ?_
      refine pm_g_Model_pointer hm258.1 pm_f_X7_48 (hm258.2.1 12 (by decide)).1 dX7_mails_260 ?_
      refine pm_iload_n dX7_mails_263 rfl ?_
      refine pm_iconst (v := 0) dX7_mails_264 (by decide) ?_
      refine mm_iastore (n := _) hm258 (by decide) rfl (by show _ < 60; omega) dX7_mails_265 (fun S265 hm265 => ?_)
      refine pm_goto (tgt := 451) dX7_mails_266 (by decide) ?_
      subst hQ9
      refine pm_vret dX7_mails_451 ?_
      first
      | (rw [if_pos gt] at hW
         subst hW
         refine ⟨_, hm265, ?_⟩
         have h1 := hr.dn (s := 11) (i := 9) (v := az_b Z 9 p - 1) hp rfl (by decide) (by omega)
         have h2 := h1.tm (M2 := mx M9 11 p (nI (az_b Z 9 p - 1))) (p := p) (g := fun k => if k < az_b Z 10 p then az_t Z 2 p k else az_t Z 2 p (k + 1)) (fun s j hs => by rw [mx_1, mx_1, e19 s j hs]) (funext fun f => e29 f) (fun q hq => by
           have hq : q < az_a Z 0 := hq
           have := h9b q hq
           obtain ⟨a1, a2, a3⟩ := hr.2.2.2.2.2.2.2.2.2.2.1 q hq
           have cg : ∀ t w, sl M9 t w → sl (mx M9 11 p (nI (az_b Z 9 p - 1))) t w := fun t w h => sl_x (by decide) h
           refine ⟨fun j hj => ?_, fun j hj => ?_, fun hd => ?_⟩
           · rw [z_t_m, if_neg (fun z => by omega)]; exact cg _ _ (e39 _ _ (by omega) (a1 j hj))
           · rw [z_t_m]
             by_cases e : q = p
             · rw [if_pos ⟨rfl, e⟩, e]
               rw [e, z_b_m, z_b_b, if_pos ⟨rfl, rfl⟩] at hj
               exact cg _ _ (e59 j (by omega) (by omega))
             · rw [if_neg (fun z => e z.2)]
               rw [z_b_m, z_b_b, if_neg (fun z => e z.2)] at hj
               exact cg _ _ (e39 _ _ (by omega) (a2 j hj))
           · rw [z_t_m, if_neg (fun z => by omega)]
             rw [z_b_m, z_b_bne (by decide)] at hd
             exact cg _ _ (e39 _ _ (by omega) (a3 hd)))
         rw [zm_b] at h2
         exact h2.b0 (s := 12) (i := 10) (v := 0) hp rfl (by decide))
      | (rw [if_neg gt] at hW
         subst hW
         refine ⟨_, hm265, ?_⟩
         have h1 : mR b Z M9 := hr.tt0 e19 (funext fun f => e29 f) (fun q hq => by
           have := h9b q hq
           obtain ⟨a1, a2, a3⟩ := hr.2.2.2.2.2.2.2.2.2.2.1 q hq
           refine ⟨fun j hj => e39 _ _ (by omega) (a1 j hj), fun j hj => ?_, fun hd => e39 _ _ (by omega) (a3 hd)⟩
           by_cases e : q = p
           · rw [e] at hj ⊢
             have q := e59 j (by omega) (by omega)
             rw [if_pos (by omega)] at q
             exact q
           · exact e39 _ _ (by omega) (a2 j hj))
         have h2 := h1.dn (s := 11) (i := 9) (v := az_b Z 9 p) hp rfl (by decide) (Nat.le_refl _)
         rw [zb_id _ rfl] at h2
         exact h2.b0 (s := 12) (i := 10) (v := 0) hp rfl (by decide))
  have loop : ∀ (m k : Nat) (M9 : pm_N) (S9 : pm_S), az_b Z 9 p - k = m → az_b Z 10 p ≤ k → k ≤ az_b Z 9 p → pm_MX M9 S9 A E → (∀ s j, 2 ≤ s → M9.1 s j = M.1 s j) → (∀ f, M9.2 f = M.2 f) → (∀ t w, ¬ (480 + 40 * p ≤ t ∧ t < 520 + 40 * p) → sl M t w → sl M9 t w) → (∀ j, k ≤ j → j < az_b Z 9 p → sl M9 (480 + 40 * p + j) (az_t Z 2 p j)) → (∀ j, j < k → j < az_b Z 9 p → sl M9 (480 + 40 * p + j) (if j < az_b Z 10 p then az_t Z 2 p j else az_t Z 2 p (j + 1))) → pm_W G l bs yX7_mails.cls cX7_mails 11 false 5 0 0 Q9 193 [.ref (A 50), .int (nI p), vo, .int (nI (8 * p + ja)), .int (nI (8 * p + jb)), .int (nI (pm_mod c 300)), .int (nI (pm_mod a 300)), .int th, .int (nI (480 + 40 * p + az_b Z 10 p)), .int (nI k), v10] [] S9 := by
    intro m
    induction m using Nat.strongRecOn with
    | ind m ih =>
    intro k M9 S9 hmk hkp hk9 hm9 e19 e29 e39 e49 e59
    refine pm_iload dX7_mails_193 rfl ?_
    refine pm_iconst (v := 1) dX7_mails_195 (by decide) ?_
    refine pm_iadd dX7_mails_196 ?_
    refine pm_aload_n dX7_mails_197 rfl ?_
    refine pm_g_Model_mail hm9.1 pm_f_X7_45 (hm9.2.1 11 (by decide)).1 dX7_mails_198 ?_
    refine pm_iload_n dX7_mails_201 rfl ?_
    refine mm_iaload (n := _) hm9 (by decide) rfl (by show _ < 60; omega) dX7_mails_202 ?_
    rw [e19 11 p (by decide), hr.B (i := 9) hp rfl, nI_1]
    refine pm_icmp_ge (tgt := 240) dX7_mails_203 (by decide) (fun h203 => ?_) (fun h203 => ?_)
    · skip
      have h8 : az_b Z 9 p ≤ k + 1 := (pm_nle (a := az_b Z 9 p) (b := k + 1) (by omega) (by omega)).mp h203
      exact fin k M9 _ hkp h8 hm9 e19 e29 e39 e59
    · skip
      have h8 : k + 1 < az_b Z 9 p := by rcases Nat.lt_or_ge (k + 1) (az_b Z 9 p) with q | q; exact q; exact absurd ((pm_nle (a := az_b Z 9 p) (b := k + 1) (by omega) (by omega)).mpr q) h203
      refine pm_aload_n dX7_mails_206 rfl ?_
      refine pm_sipush (v := 480) dX7_mails_207 (by decide) ?_
      refine pm_bipush (v := 40) dX7_mails_210 (by decide) ?_
      refine pm_iload_n dX7_mails_212 rfl ?_
      refine pm_imul dX7_mails_213 ?_
      refine pm_iadd dX7_mails_214 ?_
      refine pm_iload dX7_mails_215 rfl ?_
      refine pm_iadd dX7_mails_217 ?_
      refine pm_sipush (v := 480) dX7_mails_218 (by decide) ?_
      refine pm_bipush (v := 40) dX7_mails_221 (by decide) ?_
      refine pm_iload_n dX7_mails_223 rfl ?_
      refine pm_imul dX7_mails_224 ?_
      refine pm_iadd dX7_mails_225 ?_
      refine pm_iload dX7_mails_226 rfl ?_
      refine pm_iadd dX7_mails_228 ?_
      refine pm_iconst (v := 1) dX7_mails_229 (by decide) ?_
      refine pm_iadd dX7_mails_230 ?_
      rw [show (480 : Int32) + 40 * nI p + nI k = nI (480 + 40 * p + k) from by rw [show (480 : Int32) = nI 480 from rfl, show (40 : Int32) = nI 40 from rfl, pk_mul, nI_add, nI_add], nI_1]
      refine pm_vv (c_X7_copy G l bs A E M9 (480 + 40 * p + k) (480 + 40 * p + k + 1) (az_t Z 2 p (k + 1)) _ hm9 (by omega) (by omega) (e49 (k + 1) (by omega) h8)) pm_y_X7_copy pm_v_X7_copy pm_m_X7_136 (c := 7) (r := (RX7, TX7, 41)) rfl rfl hm9.1 dX7_mails_231 rfl rfl (by decide) (Nat.le_of_ble_eq_true rfl) (fun S231 h231 => ?_)
      obtain ⟨M231, hm231, mt231, sl231⟩ := h231
      refine pm_iinc dX7_mails_234 rfl rfl (by decide) ?_
      dsimp only [List.set]
      refine pm_goto (tgt := 193) dX7_mails_237 (by decide) ?_
      rw [show nI k + Int32.ofInt 1 = nI (k + 1) from nI_1 _]
      refine ih (az_b Z 9 p - (k + 1)) (by omega) (k + 1) M231 _ rfl (by omega) (by omega) hm231 (fun s j hs => (mt231.e1 s j hs).trans (e19 s j hs)) (fun f => by rw [mt231.2]; exact e29 f) (fun t w h1 h2 => mt231.sl (by omega) (e39 t w h1 h2)) (fun j hj hj2 => mt231.sl (by omega) (e49 j (by omega) hj2)) (fun j hj hj2 => ?_)
      by_cases e : j = k
      · rw [e, if_neg (by omega)]; exact sl231
      · exact mt231.sl (by omega) (e59 j (by omega) (by omega))
  refine pm_aload_n dX7_mails_185 rfl ?_
  refine pm_g_Model_pointer hm.1 pm_f_X7_48 (hm.2.1 12 (by decide)).1 dX7_mails_186 ?_
  refine pm_iload_n dX7_mails_189 rfl ?_
  refine mm_iaload (n := _) hm (by decide) rfl (by show _ < 60; omega) dX7_mails_190 ?_
  rw [hr.B (i := 10) hp rfl]
  refine pm_istore dX7_mails_191 (by decide) ?_
  dsimp only [List.set]
  refine loop (az_b Z 9 p - az_b Z 10 p) (az_b Z 10 p) M _ rfl (Nat.le_refl _) b10 hm (fun _ _ _ => rfl) (fun _ => rfl) (fun t w _ h => h) (fun j _ hj => (hr.2.2.2.2.2.2.2.2.2.2.1 p hp).2.1 j hj) (fun j hj hj2 => ?_)
  rw [if_pos hj]
  exact (hr.2.2.2.2.2.2.2.2.2.2.1 p hp).2.1 j hj2

