/-! the reference: simple words, calls -/
set_option maxHeartbeats 4000000 in
set_option maxRecDepth 100000 in
theorem m_0 (G : pm_G) (l : Launch) (bs : Nat) (A : Nat → Nat) (E : pm_S) (M : pm_N) (b : Nat) (Z : az) (s : Nat) (p ja jb jc : Nat) (a bb c : Int32) (vo v9 v10 v11 : Value) (W : az) (S : pm_S) (hm : pm_MX M S A E) (hr : mR b Z M) (hI : zI s Z) (hp : p < az_a Z 0) (h0 : az_b Z 1 p = 0) (hja : ja < 8) (hjb : jb < 8) (hjc : jc < 8) (hW : zDies Z p [1, 0] = W) : pm_W G l bs yX7_simple.cls cX7_simple 10 false 6 0 0 (pm_xv (fun S2 => ∃ M2, pm_MX M2 S2 A E ∧ mR b W M2)) 64 [.ref (A 50), .int (nI p), vo, .int a, .int bb, .int (nI (8 * p + ja)), .int (nI (8 * p + jb)), .int (nI (8 * p + jc)), .int (nI (pm_mod a 300)), v9] [] S := by
  have hn := hI.1
  have hsm := hI.sm
  have h9b := hI.b9
  have h02 : az_b Z 1 p ≠ 2 := by omega
  have hsa := hr.G hp hja
  have hsb := hr.G hp hjb
  have hsc := hr.G hp hjc
  have hwa := hI.rg hp hja
  have hwb := hI.rg hp hjb
  have hwc := hI.rg hp hjc
  have hla := hwa.len
  have hlb := hwb.len
  have hlc := hwc.len
  generalize hQ9 : pm_xv (fun S2 => ∃ M2, pm_MX M2 S2 A E ∧ mR b W M2) = Q9
  refine pm_aload_n dX7_simple_64 rfl ?_
  refine pm_iload_n dX7_simple_65 rfl ?_
  refine pm_iconst (v := 0) dX7_simple_66 (by decide) ?_
  refine pm_vv (c_X7_endsBy G l bs A E M b Z s p 0 _ hm hr hI hp h02) pm_y_X7_endsBy pm_v_X7_endsBy pm_m_X7_229 (c := 7) (r := (RX7, TX7, 41)) rfl rfl hm.1 dX7_simple_67 rfl rfl (by decide) (Nat.le_of_ble_eq_true rfl) (fun S67 h67 => ?_)
  obtain ⟨M67, hm67, hr67⟩ := h67
  refine pm_goto (tgt := 360) dX7_simple_70 (by decide) ?_
  subst hQ9
  refine pm_vret dX7_simple_360 ?_
  subst hW
  exact ⟨M67, hm67, hr67⟩

set_option maxHeartbeats 4000000 in
set_option maxRecDepth 100000 in
theorem m_1 (G : pm_G) (l : Launch) (bs : Nat) (A : Nat → Nat) (E : pm_S) (M : pm_N) (b : Nat) (Z : az) (s : Nat) (p ja jb jc : Nat) (a bb c : Int32) (vo v9 v10 v11 : Value) (W : az) (S : pm_S) (hm : pm_MX M S A E) (hr : mR b Z M) (hI : zI s Z) (hp : p < az_a Z 0) (h0 : az_b Z 1 p = 0) (hja : ja < 8) (hjb : jb < 8) (hjc : jc < 8) (hW : zs_t Z 0 p ja [0, bb] = W) : pm_W G l bs yX7_simple.cls cX7_simple 10 false 6 0 0 (pm_xv (fun S2 => ∃ M2, pm_MX M2 S2 A E ∧ mR b W M2)) 73 [.ref (A 50), .int (nI p), vo, .int a, .int bb, .int (nI (8 * p + ja)), .int (nI (8 * p + jb)), .int (nI (8 * p + jc)), .int (nI (pm_mod a 300)), v9] [] S := by
  have hn := hI.1
  have hsm := hI.sm
  have h9b := hI.b9
  have h02 : az_b Z 1 p ≠ 2 := by omega
  have hsa := hr.G hp hja
  have hsb := hr.G hp hjb
  have hsc := hr.G hp hjc
  have hwa := hI.rg hp hja
  have hwb := hI.rg hp hjb
  have hwc := hI.rg hp hjc
  have hla := hwa.len
  have hlb := hwb.len
  have hlc := hwc.len
  generalize hQ9 : pm_xv (fun S2 => ∃ M2, pm_MX M2 S2 A E ∧ mR b W M2) = Q9
  refine pm_aload_n dX7_simple_73 rfl ?_
  refine pm_iload dX7_simple_74 rfl ?_
  refine pm_iconst (v := 0) dX7_simple_76 (by decide) ?_
  refine pm_iload dX7_simple_77 rfl ?_
  refine pm_vv (c_X7_set G l bs A E M (8 * p + ja) 0 bb _ hm (by omega)) pm_y_X7_set pm_v_X7_set pm_m_X7_124 (c := 7) (r := (RX7, TX7, 41)) rfl rfl hm.1 dX7_simple_79 rfl rfl (by decide) (Nat.le_of_ble_eq_true rfl) (fun S79 h79 => ?_)
  obtain ⟨M79, hm79, mt79, sl79⟩ := h79
  refine pm_goto (tgt := 360) dX7_simple_82 (by decide) ?_
  subst hQ9
  refine pm_vret dX7_simple_360 ?_
  subst hW
  exact ⟨M79, hm79, hr.reg hn h9b hp hja mt79 sl79⟩

set_option maxHeartbeats 4000000 in
set_option maxRecDepth 100000 in
theorem m_2 (G : pm_G) (l : Launch) (bs : Nat) (A : Nat → Nat) (E : pm_S) (M : pm_N) (b : Nat) (Z : az) (s : Nat) (p ja jb jc : Nat) (a bb c : Int32) (vo v9 v10 v11 : Value) (W : az) (S : pm_S) (hm : pm_MX M S A E) (hr : mR b Z M) (hI : zI s Z) (hp : p < az_a Z 0) (h0 : az_b Z 1 p = 0) (hja : ja < 8) (hjb : jb < 8) (hjc : jc < 8) (hW : zs_t Z 0 p ja [1, nI (pm_mod bb 100)] = W) : pm_W G l bs yX7_simple.cls cX7_simple 10 false 6 0 0 (pm_xv (fun S2 => ∃ M2, pm_MX M2 S2 A E ∧ mR b W M2)) 85 [.ref (A 50), .int (nI p), vo, .int a, .int bb, .int (nI (8 * p + ja)), .int (nI (8 * p + jb)), .int (nI (8 * p + jc)), .int (nI (pm_mod a 300)), v9] [] S := by
  have hn := hI.1
  have hsm := hI.sm
  have h9b := hI.b9
  have h02 : az_b Z 1 p ≠ 2 := by omega
  have hsa := hr.G hp hja
  have hsb := hr.G hp hjb
  have hsc := hr.G hp hjc
  have hwa := hI.rg hp hja
  have hwb := hI.rg hp hjb
  have hwc := hI.rg hp hjc
  have hla := hwa.len
  have hlb := hwb.len
  have hlc := hwc.len
  generalize hQ9 : pm_xv (fun S2 => ∃ M2, pm_MX M2 S2 A E ∧ mR b W M2) = Q9
  refine pm_aload_n dX7_simple_85 rfl ?_
  refine pm_iload dX7_simple_86 rfl ?_
  refine pm_iconst (v := 1) dX7_simple_88 (by decide) ?_
  refine pm_iload dX7_simple_89 rfl ?_
  refine pm_bipush (v := 100) dX7_simple_91 (by decide) ?_
  refine pm_ssi (c_X7_mod G l bs bb 100 _ (by decide) (by decide)) pm_y_X7_mod pm_s_X7_mod pm_m_X7_199 dX7_simple_93 rfl rfl (by decide) (Nat.le_of_ble_eq_true rfl) (fun x93 S93 h93 => ?_)
  obtain ⟨rfl, rfl⟩ := h93
  refine pm_vv (c_X7_set G l bs A E M (8 * p + ja) 1 (nI (pm_mod bb 100)) _ hm (by omega)) pm_y_X7_set pm_v_X7_set pm_m_X7_124 (c := 7) (r := (RX7, TX7, 41)) rfl rfl hm.1 dX7_simple_96 rfl rfl (by decide) (Nat.le_of_ble_eq_true rfl) (fun S96 h96 => ?_)
  obtain ⟨M96, hm96, mt96, sl96⟩ := h96
  refine pm_goto (tgt := 360) dX7_simple_99 (by decide) ?_
  subst hQ9
  refine pm_vret dX7_simple_360 ?_
  subst hW
  exact ⟨M96, hm96, hr.reg hn h9b hp hja mt96 sl96⟩

set_option maxHeartbeats 4000000 in
set_option maxRecDepth 100000 in
theorem m_3 (G : pm_G) (l : Launch) (bs : Nat) (A : Nat → Nat) (E : pm_S) (M : pm_N) (b : Nat) (Z : az) (s : Nat) (p ja jb jc : Nat) (a bb c : Int32) (vo v9 v10 v11 : Value) (W : az) (S : pm_S) (hm : pm_MX M S A E) (hr : mR b Z M) (hI : zI s Z) (hp : p < az_a Z 0) (h0 : az_b Z 1 p = 0) (hja : ja < 8) (hjb : jb < 8) (hjc : jc < 8) (hW : zs_t Z 0 p ja (az_t Z 0 p jb) = W) : pm_W G l bs yX7_simple.cls cX7_simple 10 false 6 0 0 (pm_xv (fun S2 => ∃ M2, pm_MX M2 S2 A E ∧ mR b W M2)) 102 [.ref (A 50), .int (nI p), vo, .int a, .int bb, .int (nI (8 * p + ja)), .int (nI (8 * p + jb)), .int (nI (8 * p + jc)), .int (nI (pm_mod a 300)), v9] [] S := by
  have hn := hI.1
  have hsm := hI.sm
  have h9b := hI.b9
  have h02 : az_b Z 1 p ≠ 2 := by omega
  have hsa := hr.G hp hja
  have hsb := hr.G hp hjb
  have hsc := hr.G hp hjc
  have hwa := hI.rg hp hja
  have hwb := hI.rg hp hjb
  have hwc := hI.rg hp hjc
  have hla := hwa.len
  have hlb := hwb.len
  have hlc := hwc.len
  generalize hQ9 : pm_xv (fun S2 => ∃ M2, pm_MX M2 S2 A E ∧ mR b W M2) = Q9
  refine pm_aload_n dX7_simple_102 rfl ?_
  refine pm_iload dX7_simple_103 rfl ?_
  refine pm_iload dX7_simple_105 rfl ?_
  refine pm_vv (c_X7_copy G l bs A E M (8 * p + ja) (8 * p + jb) (az_t Z 0 p jb) _ hm (by omega) (by omega) hsb) pm_y_X7_copy pm_v_X7_copy pm_m_X7_136 (c := 7) (r := (RX7, TX7, 41)) rfl rfl hm.1 dX7_simple_107 rfl rfl (by decide) (Nat.le_of_ble_eq_true rfl) (fun S107 h107 => ?_)
  obtain ⟨M107, hm107, mt107, sl107⟩ := h107
  refine pm_goto (tgt := 360) dX7_simple_110 (by decide) ?_
  subst hQ9
  refine pm_vret dX7_simple_360 ?_
  subst hW
  exact ⟨M107, hm107, hr.reg hn h9b hp hja mt107 sl107⟩

set_option maxHeartbeats 4000000 in
set_option maxRecDepth 100000 in
theorem m_4 (G : pm_G) (l : Launch) (bs : Nat) (A : Nat → Nat) (E : pm_S) (M : pm_N) (b : Nat) (Z : az) (s : Nat) (p ja jb jc : Nat) (a bb c : Int32) (vo v9 v10 v11 : Value) (W : az) (S : pm_S) (hm : pm_MX M S A E) (hr : mR b Z M) (hI : zI s Z) (hp : p < az_a Z 0) (h0 : az_b Z 1 p = 0) (hja : ja < 8) (hjb : jb < 8) (hjc : jc < 8) (hW : (if zKind (az_t Z 0 p jb) = 0 ∧ zKind (az_t Z 0 p jc) = 0 then zs_t Z 0 p ja [0, zVal (az_t Z 0 p jb) + zVal (az_t Z 0 p jc)] else zBad Z p) = W) : pm_W G l bs yX7_simple.cls cX7_simple 10 false 6 0 0 (pm_xv (fun S2 => ∃ M2, pm_MX M2 S2 A E ∧ mR b W M2)) 113 [.ref (A 50), .int (nI p), .int 4, .int a, .int bb, .int (nI (8 * p + ja)), .int (nI (8 * p + jb)), .int (nI (8 * p + jc)), .int (nI (pm_mod a 300)), v9] [] S := by
  have hn := hI.1
  have hsm := hI.sm
  have h9b := hI.b9
  have h02 : az_b Z 1 p ≠ 2 := by omega
  have hsa := hr.G hp hja
  have hsb := hr.G hp hjb
  have hsc := hr.G hp hjc
  have hwa := hI.rg hp hja
  have hwb := hI.rg hp hjb
  have hwc := hI.rg hp hjc
  have hla := hwa.len
  have hlb := hwb.len
  have hlc := hwc.len
  generalize hQ9 : pm_xv (fun S2 => ∃ M2, pm_MX M2 S2 A E ∧ mR b W M2) = Q9
  refine pm_aload_n dX7_simple_113 rfl ?_
  refine pm_iload_n dX7_simple_114 rfl ?_
  refine pm_iload_n dX7_simple_115 rfl ?_
  refine pm_iload dX7_simple_116 rfl ?_
  refine pm_iload dX7_simple_118 rfl ?_
  refine pm_iload dX7_simple_120 rfl ?_
  refine pm_vv (c_X7_reckons4 G l bs A E M b Z s p ja jb jc _ hm hr hI hp h0 hja hjb hjc) pm_y_X7_reckons pm_v_X7_reckons pm_m_X7_232 (c := 7) (r := (RX7, TX7, 41)) rfl rfl hm.1 dX7_simple_122 rfl rfl (by decide) (Nat.le_of_ble_eq_true rfl) (fun S122 h122 => ?_)
  obtain ⟨M122, hm122, hr122⟩ := h122
  refine pm_goto (tgt := 360) dX7_simple_125 (by decide) ?_
  subst hQ9
  refine pm_vret dX7_simple_360 ?_
  subst hW
  exact ⟨M122, hm122, hr122⟩

set_option maxHeartbeats 4000000 in
set_option maxRecDepth 100000 in
theorem m_5 (G : pm_G) (l : Launch) (bs : Nat) (A : Nat → Nat) (E : pm_S) (M : pm_N) (b : Nat) (Z : az) (s : Nat) (p ja jb jc : Nat) (a bb c : Int32) (vo v9 v10 v11 : Value) (W : az) (S : pm_S) (hm : pm_MX M S A E) (hr : mR b Z M) (hI : zI s Z) (hp : p < az_a Z 0) (h0 : az_b Z 1 p = 0) (hja : ja < 8) (hjb : jb < 8) (hjc : jc < 8) (hW : (if zKind (az_t Z 0 p jb) = 0 ∧ zKind (az_t Z 0 p jc) = 0 then zs_t Z 0 p ja [0, zVal (az_t Z 0 p jb) - zVal (az_t Z 0 p jc)] else zBad Z p) = W) : pm_W G l bs yX7_simple.cls cX7_simple 10 false 6 0 0 (pm_xv (fun S2 => ∃ M2, pm_MX M2 S2 A E ∧ mR b W M2)) 113 [.ref (A 50), .int (nI p), .int 5, .int a, .int bb, .int (nI (8 * p + ja)), .int (nI (8 * p + jb)), .int (nI (8 * p + jc)), .int (nI (pm_mod a 300)), v9] [] S := by
  have hn := hI.1
  have hsm := hI.sm
  have h9b := hI.b9
  have h02 : az_b Z 1 p ≠ 2 := by omega
  have hsa := hr.G hp hja
  have hsb := hr.G hp hjb
  have hsc := hr.G hp hjc
  have hwa := hI.rg hp hja
  have hwb := hI.rg hp hjb
  have hwc := hI.rg hp hjc
  have hla := hwa.len
  have hlb := hwb.len
  have hlc := hwc.len
  generalize hQ9 : pm_xv (fun S2 => ∃ M2, pm_MX M2 S2 A E ∧ mR b W M2) = Q9
  refine pm_aload_n dX7_simple_113 rfl ?_
  refine pm_iload_n dX7_simple_114 rfl ?_
  refine pm_iload_n dX7_simple_115 rfl ?_
  refine pm_iload dX7_simple_116 rfl ?_
  refine pm_iload dX7_simple_118 rfl ?_
  refine pm_iload dX7_simple_120 rfl ?_
  refine pm_vv (c_X7_reckons5 G l bs A E M b Z s p ja jb jc _ hm hr hI hp h0 hja hjb hjc) pm_y_X7_reckons pm_v_X7_reckons pm_m_X7_232 (c := 7) (r := (RX7, TX7, 41)) rfl rfl hm.1 dX7_simple_122 rfl rfl (by decide) (Nat.le_of_ble_eq_true rfl) (fun S122 h122 => ?_)
  obtain ⟨M122, hm122, hr122⟩ := h122
  refine pm_goto (tgt := 360) dX7_simple_125 (by decide) ?_
  subst hQ9
  refine pm_vret dX7_simple_360 ?_
  subst hW
  exact ⟨M122, hm122, hr122⟩

set_option maxHeartbeats 4000000 in
set_option maxRecDepth 100000 in
theorem m_6 (G : pm_G) (l : Launch) (bs : Nat) (A : Nat → Nat) (E : pm_S) (M : pm_N) (b : Nat) (Z : az) (s : Nat) (p ja jb jc : Nat) (a bb c : Int32) (vo v9 v10 v11 : Value) (W : az) (S : pm_S) (hm : pm_MX M S A E) (hr : mR b Z M) (hI : zI s Z) (hp : p < az_a Z 0) (h0 : az_b Z 1 p = 0) (hja : ja < 8) (hjb : jb < 8) (hjc : jc < 8) (hW : (if zKind (az_t Z 0 p jb) = 0 ∧ zKind (az_t Z 0 p jc) = 0 then zs_t Z 0 p ja [0, zVal (az_t Z 0 p jb) * zVal (az_t Z 0 p jc)] else zBad Z p) = W) : pm_W G l bs yX7_simple.cls cX7_simple 10 false 6 0 0 (pm_xv (fun S2 => ∃ M2, pm_MX M2 S2 A E ∧ mR b W M2)) 113 [.ref (A 50), .int (nI p), .int 6, .int a, .int bb, .int (nI (8 * p + ja)), .int (nI (8 * p + jb)), .int (nI (8 * p + jc)), .int (nI (pm_mod a 300)), v9] [] S := by
  have hn := hI.1
  have hsm := hI.sm
  have h9b := hI.b9
  have h02 : az_b Z 1 p ≠ 2 := by omega
  have hsa := hr.G hp hja
  have hsb := hr.G hp hjb
  have hsc := hr.G hp hjc
  have hwa := hI.rg hp hja
  have hwb := hI.rg hp hjb
  have hwc := hI.rg hp hjc
  have hla := hwa.len
  have hlb := hwb.len
  have hlc := hwc.len
  generalize hQ9 : pm_xv (fun S2 => ∃ M2, pm_MX M2 S2 A E ∧ mR b W M2) = Q9
  refine pm_aload_n dX7_simple_113 rfl ?_
  refine pm_iload_n dX7_simple_114 rfl ?_
  refine pm_iload_n dX7_simple_115 rfl ?_
  refine pm_iload dX7_simple_116 rfl ?_
  refine pm_iload dX7_simple_118 rfl ?_
  refine pm_iload dX7_simple_120 rfl ?_
  refine pm_vv (c_X7_reckons6 G l bs A E M b Z s p ja jb jc _ hm hr hI hp h0 hja hjb hjc) pm_y_X7_reckons pm_v_X7_reckons pm_m_X7_232 (c := 7) (r := (RX7, TX7, 41)) rfl rfl hm.1 dX7_simple_122 rfl rfl (by decide) (Nat.le_of_ble_eq_true rfl) (fun S122 h122 => ?_)
  obtain ⟨M122, hm122, hr122⟩ := h122
  refine pm_goto (tgt := 360) dX7_simple_125 (by decide) ?_
  subst hQ9
  refine pm_vret dX7_simple_360 ?_
  subst hW
  exact ⟨M122, hm122, hr122⟩

set_option maxHeartbeats 4000000 in
set_option maxRecDepth 100000 in
theorem m_7 (G : pm_G) (l : Launch) (bs : Nat) (A : Nat → Nat) (E : pm_S) (M : pm_N) (b : Nat) (Z : az) (s : Nat) (p ja jb jc : Nat) (a bb c : Int32) (vo v9 v10 v11 : Value) (W : az) (S : pm_S) (hm : pm_MX M S A E) (hr : mR b Z M) (hI : zI s Z) (hp : p < az_a Z 0) (h0 : az_b Z 1 p = 0) (hja : ja < 8) (hjb : jb < 8) (hjc : jc < 8) (hW : (if 1 + (az_t Z 0 p jb).length + (az_t Z 0 p jc).length ≤ 95 then zs_t Z 0 p ja (-1 :: ((az_t Z 0 p jb) ++ (az_t Z 0 p jc))) else zLim Z p) = W) : pm_W G l bs yX7_simple.cls cX7_simple 10 false 6 0 0 (pm_xv (fun S2 => ∃ M2, pm_MX M2 S2 A E ∧ mR b W M2)) 128 [.ref (A 50), .int (nI p), vo, .int a, .int bb, .int (nI (8 * p + ja)), .int (nI (8 * p + jb)), .int (nI (8 * p + jc)), .int (nI (pm_mod a 300)), v9] [] S := by
  have hn := hI.1
  have hsm := hI.sm
  have h9b := hI.b9
  have h02 : az_b Z 1 p ≠ 2 := by omega
  have hsa := hr.G hp hja
  have hsb := hr.G hp hjb
  have hsc := hr.G hp hjc
  have hwa := hI.rg hp hja
  have hwb := hI.rg hp hjb
  have hwc := hI.rg hp hjc
  have hla := hwa.len
  have hlb := hwb.len
  have hlc := hwc.len
  generalize hQ9 : pm_xv (fun S2 => ∃ M2, pm_MX M2 S2 A E ∧ mR b W M2) = Q9
  refine pm_aload_n dX7_simple_128 rfl ?_
  refine pm_iload dX7_simple_129 rfl ?_
  refine pm_vi (c_X7_ends G l bs A E M (8 * p + jb) (az_t Z 0 p jb).length _ hm (by omega) hsb.2.1 hsb.1) pm_y_X7_ends pm_v_X7_ends pm_m_X7_172 (c := 7) (r := (RX7, TX7, 41)) rfl rfl hm.1 dX7_simple_131 rfl rfl (by decide) (Nat.le_of_ble_eq_true rfl) (fun x131 S131 h131 => ?_)
  obtain ⟨rfl, rfl⟩ := h131
  refine pm_aload_n dX7_simple_134 rfl ?_
  refine pm_iload dX7_simple_135 rfl ?_
  refine pm_vi (c_X7_ends G l bs A E M (8 * p + jc) (az_t Z 0 p jc).length _ hm (by omega) hsc.2.1 hsc.1) pm_y_X7_ends pm_v_X7_ends pm_m_X7_172 (c := 7) (r := (RX7, TX7, 41)) rfl rfl hm.1 dX7_simple_137 rfl rfl (by decide) (Nat.le_of_ble_eq_true rfl) (fun x137 S137 h137 => ?_)
  obtain ⟨rfl, rfl⟩ := h137
  refine pm_iadd dX7_simple_140 ?_
  refine pm_bipush (v := 32) dX7_simple_141 (by decide) ?_
  rw [nI_add]
  refine pm_icmp_le (tgt := 156) dX7_simple_143 (by decide) (fun h143 => ?_) (fun h143 => ?_)
  · skip
    have g1 : ((az_t Z 0 p jb).length + 1) / 3 + ((az_t Z 0 p jc).length + 1) / 3 ≤ 32 := (pm_nle (b := 32) (by omega) (by omega)).mp h143
    have g2 : 1 + (az_t Z 0 p jb).length + (az_t Z 0 p jc).length ≤ 95 := by omega
    refine pm_aload_n dX7_simple_156 rfl ?_
    refine pm_sipush (v := 2940) dX7_simple_157 (by decide) ?_
    refine pm_iload dX7_simple_160 rfl ?_
    refine pm_iload dX7_simple_162 rfl ?_
    refine pm_vv (c_X7_pair G l bs A E M 2940 (8 * p + jb) (8 * p + jc) (az_t Z 0 p jb) (az_t Z 0 p jc) _ hm (by decide) (by omega) (by omega) (by omega) (by omega) g2 hsb hsc) pm_y_X7_pair pm_v_X7_pair pm_m_X7_175 (c := 7) (r := (RX7, TX7, 41)) rfl rfl hm.1 dX7_simple_164 rfl rfl (by decide) (Nat.le_of_ble_eq_true rfl) (fun S164 h164 => ?_)
    obtain ⟨M164, hm164, mt164, sl164⟩ := h164
    have hr164 := hr.T hn h9b mt164 (by decide)
    refine pm_aload_n dX7_simple_167 rfl ?_
    refine pm_iload dX7_simple_168 rfl ?_
    refine pm_sipush (v := 2940) dX7_simple_170 (by decide) ?_
    refine pm_vv (c_X7_copy G l bs A E M164 (8 * p + ja) 2940 _ _ hm164 (by omega) (by omega) sl164) pm_y_X7_copy pm_v_X7_copy pm_m_X7_136 (c := 7) (r := (RX7, TX7, 41)) rfl rfl hm164.1 dX7_simple_173 rfl rfl (by decide) (Nat.le_of_ble_eq_true rfl) (fun S173 h173 => ?_)
    obtain ⟨M173, hm173, mt173, sl173⟩ := h173
    refine pm_goto (tgt := 360) dX7_simple_176 (by decide) ?_
    subst hQ9
    refine pm_vret dX7_simple_360 ?_
    first
    | (rw [if_neg g2] at hW; subst hW; exact ⟨M150, hm150, hr150⟩)
    | (rw [if_pos g2] at hW; subst hW; exact ⟨M173, hm173, hr164.reg hn h9b hp hja mt173 sl173⟩)
  · skip
    have g2 : ¬ 1 + (az_t Z 0 p jb).length + (az_t Z 0 p jc).length ≤ 95 := fun z => h143 ((pm_nle (b := 32) (a := ((az_t Z 0 p jb).length + 1) / 3 + ((az_t Z 0 p jc).length + 1) / 3) (by omega) (by omega)).mpr (by omega))
    refine pm_aload_n dX7_simple_146 rfl ?_
    refine pm_iload_n dX7_simple_147 rfl ?_
    refine pm_iconst (v := 1) dX7_simple_148 (by decide) ?_
    refine pm_iconst (v := 5) dX7_simple_149 (by decide) ?_
    refine pm_vv (c_X7_failsWith G l bs A E M b Z s p 1 5 _ hm hr hI hp h02) pm_y_X7_failsWith pm_v_X7_failsWith pm_m_X7_193 (c := 7) (r := (RX7, TX7, 41)) rfl rfl hm.1 dX7_simple_150 rfl rfl (by decide) (Nat.le_of_ble_eq_true rfl) (fun S150 h150 => ?_)
    obtain ⟨M150, hm150, hr150⟩ := h150
    refine pm_goto (tgt := 360) dX7_simple_153 (by decide) ?_
    subst hQ9
    refine pm_vret dX7_simple_360 ?_
    first
    | (rw [if_neg g2] at hW; subst hW; exact ⟨M150, hm150, hr150⟩)
    | (rw [if_pos g2] at hW; subst hW; exact ⟨M173, hm173, hr164.reg hn h9b hp hja mt173 sl173⟩)

set_option maxHeartbeats 4000000 in
set_option maxRecDepth 100000 in
theorem m_8 (G : pm_G) (l : Launch) (bs : Nat) (A : Nat → Nat) (E : pm_S) (M : pm_N) (b : Nat) (Z : az) (s : Nat) (p ja jb jc : Nat) (a bb c : Int32) (vo v9 v10 v11 : Value) (W : az) (S : pm_S) (hm : pm_MX M S A E) (hr : mR b Z M) (hI : zI s Z) (hp : p < az_a Z 0) (h0 : az_b Z 1 p = 0) (hja : ja < 8) (hjb : jb < 8) (hjc : jc < 8) (hW : (if zKind (az_t Z 0 p jb) = 3 then zs_t Z 0 p ja (zFirst (az_t Z 0 p jb)) else zBad Z p) = W) : pm_W G l bs yX7_simple.cls cX7_simple 10 false 6 0 0 (pm_xv (fun S2 => ∃ M2, pm_MX M2 S2 A E ∧ mR b W M2)) 179 [.ref (A 50), .int (nI p), .int 8, .int a, .int bb, .int (nI (8 * p + ja)), .int (nI (8 * p + jb)), .int (nI (8 * p + jc)), .int (nI (pm_mod a 300)), v9] [] S := by
  have hn := hI.1
  have hsm := hI.sm
  have h9b := hI.b9
  have h02 : az_b Z 1 p ≠ 2 := by omega
  have hsa := hr.G hp hja
  have hsb := hr.G hp hjb
  have hsc := hr.G hp hjc
  have hwa := hI.rg hp hja
  have hwb := hI.rg hp hjb
  have hwc := hI.rg hp hjc
  have hla := hwa.len
  have hlb := hwb.len
  have hlc := hwc.len
  generalize hQ9 : pm_xv (fun S2 => ∃ M2, pm_MX M2 S2 A E ∧ mR b W M2) = Q9
  refine pm_aload_n dX7_simple_179 rfl ?_
  refine pm_iload_n dX7_simple_180 rfl ?_
  refine pm_aload_n dX7_simple_181 rfl ?_
  refine pm_iload dX7_simple_182 rfl ?_
  refine pm_iconst (v := (-1)) dX7_simple_184 (by decide) ?_
  refine pm_vi (c_X7_is G l bs A E M (8 * p + jb) (-1) _ hm (by omega)) pm_y_X7_is pm_v_X7_is pm_m_X7_178 (c := 7) (r := (RX7, TX7, 41)) rfl rfl hm.1 dX7_simple_185 rfl rfl (by decide) (Nat.le_of_ble_eq_true rfl) (fun x185 S185 h185 => ?_)
  obtain ⟨rfl, rfl⟩ := h185
  refine pm_if_ne (tgt := 195) dX7_simple_188 (by decide) (fun h188 => ?_) (fun h188 => ?_)
  · skip
    have k3 : zKind (az_t Z 0 p jb) = 3 := (slK hsb hwb).2.2.2.mp (Classical.byContradiction (fun z => h188 (if_neg z)))
    refine pm_iconst (v := 0) dX7_simple_195 (by decide) ?_
    refine pm_vi (c_X7_bad G l bs A E M b Z s p _ _ hm hr hI hp h02 (by first | exact Or.inl rfl | exact Or.inr rfl)) pm_y_X7_bad pm_v_X7_bad pm_m_X7_202 (c := 7) (r := (RX7, TX7, 41)) rfl rfl hm.1 dX7_simple_196 rfl rfl (by decide) (Nat.le_of_ble_eq_true rfl) (fun x196 S196 h196 => ?_)
    obtain ⟨rfl, h196b⟩ := h196
    refine pm_if_eq (tgt := 205) dX7_simple_199 (by decide) (fun h199 => ?_) (fun h199 => ?_)
    · first
      | exact absurd h199 (by decide)
      | (skip
         rcases h196b with ⟨-, rfl⟩ | ⟨g0, -⟩
         case inr => exact absurd rfl g0
         refine pm_aload_n dX7_simple_205 rfl ?_
         refine pm_iload dX7_simple_206 rfl ?_
         refine pm_iconst (v := 1) dX7_simple_208 (by decide) ?_
         obtain ⟨l9, e9⟩ := hwb.k3.mp k3
         have hpt := hwb.parts k3
         have hd1 : tS (az_a Z 0) 2 ((az_t Z 0 p jb).drop 1) := by
           rcases hwb.cases with ⟨k, v, e, hk, -⟩ | ⟨r, e, h9⟩
           · rw [e] at e9; cases e9; exact absurd rfl hk
           · rw [e]; exact h9
         refine pm_vi (c_X7_behind G l bs A E M (az_a Z 0) (8 * p + jb) (az_t Z 0 p jb) _ hm (by omega) hsb hd1) pm_y_X7_behind pm_v_X7_behind pm_m_X7_236 (c := 7) (r := (RX7, TX7, 41)) rfl rfl hm.1 dX7_simple_209 rfl rfl (by decide) (Nat.le_of_ble_eq_true rfl) (fun x209 S209 h209 => ?_)
         obtain ⟨rfl, rfl⟩ := h209
         refine pm_istore dX7_simple_212 (by decide) ?_
         dsimp only [List.set]
         refine pm_iload_n dX7_simple_214 rfl ?_
         refine pm_bipush (v := 8) dX7_simple_215 (by decide) ?_
         refine pm_icmp_ne (tgt := 235) dX7_simple_217 (by decide) (fun h217 => ?_) (fun h217 => ?_)
         · exact absurd rfl h217
         · skip
           skip
           refine pm_aload_n dX7_simple_220 rfl ?_
           refine pm_sipush (v := 2940) dX7_simple_221 (by decide) ?_
           refine pm_iload dX7_simple_224 rfl ?_
           refine pm_iconst (v := 1) dX7_simple_226 (by decide) ?_
           refine pm_iload dX7_simple_227 rfl ?_
           refine pm_vv (c_X7_part G l bs A E M 2940 (8 * p + jb) 1 (tl_e 95 (az_t Z 0 p jb) 1 1) (az_t Z 0 p jb) _ hm (by decide) (by omega) (by omega) hpt.2.2.1 hpt.2.2.2 hsb) pm_y_X7_part pm_v_X7_part pm_m_X7_239 (c := 7) (r := (RX7, TX7, 41)) rfl rfl hm.1 dX7_simple_229 rfl rfl (by decide) (Nat.le_of_ble_eq_true rfl) (fun S229 h229 => ?_)
           obtain ⟨M253, hm253, mt253, sl253⟩ := h229
           have hr253 := hr.T hn h9b mt253 (by decide)
           refine pm_goto (tgt := 253) dX7_simple_232 (by decide) ?_
           refine pm_aload_n dX7_simple_253 rfl ?_
           refine pm_iload dX7_simple_254 rfl ?_
           refine pm_sipush (v := 2940) dX7_simple_256 (by decide) ?_
           refine pm_vv (c_X7_copy G l bs A E M253 (8 * p + ja) 2940 _ _ hm253 (by omega) (by omega) sl253) pm_y_X7_copy pm_v_X7_copy pm_m_X7_136 (c := 7) (r := (RX7, TX7, 41)) rfl rfl hm253.1 dX7_simple_259 rfl rfl (by decide) (Nat.le_of_ble_eq_true rfl) (fun S259 h259 => ?_)
           obtain ⟨M259, hm259, mt259, sl259⟩ := h259
           refine pm_goto (tgt := 360) dX7_simple_262 (by decide) ?_
           subst hQ9
           refine pm_vret dX7_simple_360 ?_
           first
           | (rw [if_neg k3] at hW; subst hW; exact ⟨M196, hm196, hr196⟩)
           | (rw [if_pos k3] at hW; subst hW; exact ⟨M259, hm259, hr253.reg hn h9b hp hja mt259 sl259⟩))
    · first
      | exact absurd rfl h199
      | (skip
         rcases h196b with ⟨g0, -⟩ | ⟨-, M196, hm196, hr196⟩
         case inl => exact absurd g0 (by decide)
         refine pm_goto (tgt := 360) dX7_simple_202 (by decide) ?_
         subst hQ9
         refine pm_vret dX7_simple_360 ?_
         first
         | (rw [if_neg k3] at hW; subst hW; exact ⟨M196, hm196, hr196⟩)
         | (rw [if_pos k3] at hW; subst hW; exact ⟨M259, hm259, hr253.reg hn h9b hp hja mt259 sl259⟩))
  · skip
    have k3 : ¬ zKind (az_t Z 0 p jb) = 3 := fun z => by rw [if_pos ((slK hsb hwb).2.2.2.mpr z)] at h188; cases h188
    refine pm_iconst (v := 1) dX7_simple_191 (by decide) ?_
    refine pm_goto (tgt := 196) dX7_simple_192 (by decide) ?_
    refine pm_vi (c_X7_bad G l bs A E M b Z s p _ _ hm hr hI hp h02 (by first | exact Or.inl rfl | exact Or.inr rfl)) pm_y_X7_bad pm_v_X7_bad pm_m_X7_202 (c := 7) (r := (RX7, TX7, 41)) rfl rfl hm.1 dX7_simple_196 rfl rfl (by decide) (Nat.le_of_ble_eq_true rfl) (fun x196 S196 h196 => ?_)
    obtain ⟨rfl, h196b⟩ := h196
    refine pm_if_eq (tgt := 205) dX7_simple_199 (by decide) (fun h199 => ?_) (fun h199 => ?_)
    · first
      | exact absurd h199 (by decide)
      | (skip
         rcases h196b with ⟨-, rfl⟩ | ⟨g0, -⟩
         case inr => exact absurd rfl g0
         refine pm_aload_n dX7_simple_205 rfl ?_
         refine pm_iload dX7_simple_206 rfl ?_
         refine pm_iconst (v := 1) dX7_simple_208 (by decide) ?_
         obtain ⟨l9, e9⟩ := hwb.k3.mp k3
         have hpt := hwb.parts k3
         have hd1 : tS (az_a Z 0) 2 ((az_t Z 0 p jb).drop 1) := by
           rcases hwb.cases with ⟨k, v, e, hk, -⟩ | ⟨r, e, h9⟩
           · rw [e] at e9; cases e9; exact absurd rfl hk
           · rw [e]; exact h9
         refine pm_vi (c_X7_behind G l bs A E M (az_a Z 0) (8 * p + jb) (az_t Z 0 p jb) _ hm (by omega) hsb hd1) pm_y_X7_behind pm_v_X7_behind pm_m_X7_236 (c := 7) (r := (RX7, TX7, 41)) rfl rfl hm.1 dX7_simple_209 rfl rfl (by decide) (Nat.le_of_ble_eq_true rfl) (fun x209 S209 h209 => ?_)
         obtain ⟨rfl, rfl⟩ := h209
         refine pm_istore dX7_simple_212 (by decide) ?_
         dsimp only [List.set]
         refine pm_iload_n dX7_simple_214 rfl ?_
         refine pm_bipush (v := 8) dX7_simple_215 (by decide) ?_
         refine pm_icmp_ne (tgt := 235) dX7_simple_217 (by decide) (fun h217 => ?_) (fun h217 => ?_)
         · exact absurd rfl h217
         · skip
           skip
           refine pm_aload_n dX7_simple_220 rfl ?_
           refine pm_sipush (v := 2940) dX7_simple_221 (by decide) ?_
           refine pm_iload dX7_simple_224 rfl ?_
           refine pm_iconst (v := 1) dX7_simple_226 (by decide) ?_
           refine pm_iload dX7_simple_227 rfl ?_
           refine pm_vv (c_X7_part G l bs A E M 2940 (8 * p + jb) 1 (tl_e 95 (az_t Z 0 p jb) 1 1) (az_t Z 0 p jb) _ hm (by decide) (by omega) (by omega) hpt.2.2.1 hpt.2.2.2 hsb) pm_y_X7_part pm_v_X7_part pm_m_X7_239 (c := 7) (r := (RX7, TX7, 41)) rfl rfl hm.1 dX7_simple_229 rfl rfl (by decide) (Nat.le_of_ble_eq_true rfl) (fun S229 h229 => ?_)
           obtain ⟨M253, hm253, mt253, sl253⟩ := h229
           have hr253 := hr.T hn h9b mt253 (by decide)
           refine pm_goto (tgt := 253) dX7_simple_232 (by decide) ?_
           refine pm_aload_n dX7_simple_253 rfl ?_
           refine pm_iload dX7_simple_254 rfl ?_
           refine pm_sipush (v := 2940) dX7_simple_256 (by decide) ?_
           refine pm_vv (c_X7_copy G l bs A E M253 (8 * p + ja) 2940 _ _ hm253 (by omega) (by omega) sl253) pm_y_X7_copy pm_v_X7_copy pm_m_X7_136 (c := 7) (r := (RX7, TX7, 41)) rfl rfl hm253.1 dX7_simple_259 rfl rfl (by decide) (Nat.le_of_ble_eq_true rfl) (fun S259 h259 => ?_)
           obtain ⟨M259, hm259, mt259, sl259⟩ := h259
           refine pm_goto (tgt := 360) dX7_simple_262 (by decide) ?_
           subst hQ9
           refine pm_vret dX7_simple_360 ?_
           first
           | (rw [if_neg k3] at hW; subst hW; exact ⟨M196, hm196, hr196⟩)
           | (rw [if_pos k3] at hW; subst hW; exact ⟨M259, hm259, hr253.reg hn h9b hp hja mt259 sl259⟩))
    · first
      | exact absurd rfl h199
      | (skip
         rcases h196b with ⟨g0, -⟩ | ⟨-, M196, hm196, hr196⟩
         case inl => exact absurd g0 (by decide)
         refine pm_goto (tgt := 360) dX7_simple_202 (by decide) ?_
         subst hQ9
         refine pm_vret dX7_simple_360 ?_
         first
         | (rw [if_neg k3] at hW; subst hW; exact ⟨M196, hm196, hr196⟩)
         | (rw [if_pos k3] at hW; subst hW; exact ⟨M259, hm259, hr253.reg hn h9b hp hja mt259 sl259⟩))

set_option maxHeartbeats 4000000 in
set_option maxRecDepth 100000 in
theorem m_9 (G : pm_G) (l : Launch) (bs : Nat) (A : Nat → Nat) (E : pm_S) (M : pm_N) (b : Nat) (Z : az) (s : Nat) (p ja jb jc : Nat) (a bb c : Int32) (vo v9 v10 v11 : Value) (W : az) (S : pm_S) (hm : pm_MX M S A E) (hr : mR b Z M) (hI : zI s Z) (hp : p < az_a Z 0) (h0 : az_b Z 1 p = 0) (hja : ja < 8) (hjb : jb < 8) (hjc : jc < 8) (hW : (if zKind (az_t Z 0 p jb) = 3 then zs_t Z 0 p ja (zSecond (az_t Z 0 p jb)) else zBad Z p) = W) : pm_W G l bs yX7_simple.cls cX7_simple 10 false 6 0 0 (pm_xv (fun S2 => ∃ M2, pm_MX M2 S2 A E ∧ mR b W M2)) 179 [.ref (A 50), .int (nI p), .int 9, .int a, .int bb, .int (nI (8 * p + ja)), .int (nI (8 * p + jb)), .int (nI (8 * p + jc)), .int (nI (pm_mod a 300)), v9] [] S := by
  have hn := hI.1
  have hsm := hI.sm
  have h9b := hI.b9
  have h02 : az_b Z 1 p ≠ 2 := by omega
  have hsa := hr.G hp hja
  have hsb := hr.G hp hjb
  have hsc := hr.G hp hjc
  have hwa := hI.rg hp hja
  have hwb := hI.rg hp hjb
  have hwc := hI.rg hp hjc
  have hla := hwa.len
  have hlb := hwb.len
  have hlc := hwc.len
  generalize hQ9 : pm_xv (fun S2 => ∃ M2, pm_MX M2 S2 A E ∧ mR b W M2) = Q9
  refine pm_aload_n dX7_simple_179 rfl ?_
  refine pm_iload_n dX7_simple_180 rfl ?_
  refine pm_aload_n dX7_simple_181 rfl ?_
  refine pm_iload dX7_simple_182 rfl ?_
  refine pm_iconst (v := (-1)) dX7_simple_184 (by decide) ?_
  refine pm_vi (c_X7_is G l bs A E M (8 * p + jb) (-1) _ hm (by omega)) pm_y_X7_is pm_v_X7_is pm_m_X7_178 (c := 7) (r := (RX7, TX7, 41)) rfl rfl hm.1 dX7_simple_185 rfl rfl (by decide) (Nat.le_of_ble_eq_true rfl) (fun x185 S185 h185 => ?_)
  obtain ⟨rfl, rfl⟩ := h185
  refine pm_if_ne (tgt := 195) dX7_simple_188 (by decide) (fun h188 => ?_) (fun h188 => ?_)
  · skip
    have k3 : zKind (az_t Z 0 p jb) = 3 := (slK hsb hwb).2.2.2.mp (Classical.byContradiction (fun z => h188 (if_neg z)))
    refine pm_iconst (v := 0) dX7_simple_195 (by decide) ?_
    refine pm_vi (c_X7_bad G l bs A E M b Z s p _ _ hm hr hI hp h02 (by first | exact Or.inl rfl | exact Or.inr rfl)) pm_y_X7_bad pm_v_X7_bad pm_m_X7_202 (c := 7) (r := (RX7, TX7, 41)) rfl rfl hm.1 dX7_simple_196 rfl rfl (by decide) (Nat.le_of_ble_eq_true rfl) (fun x196 S196 h196 => ?_)
    obtain ⟨rfl, h196b⟩ := h196
    refine pm_if_eq (tgt := 205) dX7_simple_199 (by decide) (fun h199 => ?_) (fun h199 => ?_)
    · first
      | exact absurd h199 (by decide)
      | (skip
         rcases h196b with ⟨-, rfl⟩ | ⟨g0, -⟩
         case inr => exact absurd rfl g0
         refine pm_aload_n dX7_simple_205 rfl ?_
         refine pm_iload dX7_simple_206 rfl ?_
         refine pm_iconst (v := 1) dX7_simple_208 (by decide) ?_
         obtain ⟨l9, e9⟩ := hwb.k3.mp k3
         have hpt := hwb.parts k3
         have hd1 : tS (az_a Z 0) 2 ((az_t Z 0 p jb).drop 1) := by
           rcases hwb.cases with ⟨k, v, e, hk, -⟩ | ⟨r, e, h9⟩
           · rw [e] at e9; cases e9; exact absurd rfl hk
           · rw [e]; exact h9
         refine pm_vi (c_X7_behind G l bs A E M (az_a Z 0) (8 * p + jb) (az_t Z 0 p jb) _ hm (by omega) hsb hd1) pm_y_X7_behind pm_v_X7_behind pm_m_X7_236 (c := 7) (r := (RX7, TX7, 41)) rfl rfl hm.1 dX7_simple_209 rfl rfl (by decide) (Nat.le_of_ble_eq_true rfl) (fun x209 S209 h209 => ?_)
         obtain ⟨rfl, rfl⟩ := h209
         refine pm_istore dX7_simple_212 (by decide) ?_
         dsimp only [List.set]
         refine pm_iload_n dX7_simple_214 rfl ?_
         refine pm_bipush (v := 8) dX7_simple_215 (by decide) ?_
         refine pm_icmp_ne (tgt := 235) dX7_simple_217 (by decide) (fun h217 => ?_) (fun h217 => ?_)
         · skip
           skip
           refine pm_aload_n dX7_simple_235 rfl ?_
           refine pm_sipush (v := 2940) dX7_simple_236 (by decide) ?_
           refine pm_iload dX7_simple_239 rfl ?_
           refine pm_iload dX7_simple_241 rfl ?_
           refine pm_aload_n dX7_simple_243 rfl ?_
           refine pm_g_Model_sizes hm.1 pm_f_X7_14 (hm.2.1 1 (by decide)).1 dX7_simple_244 ?_
           refine pm_iload dX7_simple_247 rfl ?_
           refine mm_iaload (n := _) hm (by decide) rfl (by show _ < 2945; omega) dX7_simple_249 ?_
           rw [hsb.2.1]
           refine pm_vv (c_X7_part G l bs A E M 2940 (8 * p + jb) (tl_e 95 (az_t Z 0 p jb) 1 1) (az_t Z 0 p jb).length (az_t Z 0 p jb) _ hm (by decide) (by omega) (by omega) hpt.2.2.2 (Nat.le_refl _) hsb) pm_y_X7_part pm_v_X7_part pm_m_X7_239 (c := 7) (r := (RX7, TX7, 41)) rfl rfl hm.1 dX7_simple_250 rfl rfl (by decide) (Nat.le_of_ble_eq_true rfl) (fun S250 h250 => ?_)
           obtain ⟨M253, hm253, mt253, sl253⟩ := h250
           have hr253 := hr.T hn h9b mt253 (by decide)
           refine pm_aload_n dX7_simple_253 rfl ?_
           refine pm_iload dX7_simple_254 rfl ?_
           refine pm_sipush (v := 2940) dX7_simple_256 (by decide) ?_
           refine pm_vv (c_X7_copy G l bs A E M253 (8 * p + ja) 2940 _ _ hm253 (by omega) (by omega) sl253) pm_y_X7_copy pm_v_X7_copy pm_m_X7_136 (c := 7) (r := (RX7, TX7, 41)) rfl rfl hm253.1 dX7_simple_259 rfl rfl (by decide) (Nat.le_of_ble_eq_true rfl) (fun S259 h259 => ?_)
           obtain ⟨M259, hm259, mt259, sl259⟩ := h259
           refine pm_goto (tgt := 360) dX7_simple_262 (by decide) ?_
           subst hQ9
           refine pm_vret dX7_simple_360 ?_
           first
           | (rw [if_neg k3] at hW; subst hW; exact ⟨M196, hm196, hr196⟩)
           | (rw [if_pos k3] at hW; subst hW; exact ⟨M259, hm259, hr253.reg hn h9b hp hja mt259 sl259⟩)
         · exact absurd h217 (by decide))
    · first
      | exact absurd rfl h199
      | (skip
         rcases h196b with ⟨g0, -⟩ | ⟨-, M196, hm196, hr196⟩
         case inl => exact absurd g0 (by decide)
         refine pm_goto (tgt := 360) dX7_simple_202 (by decide) ?_
         subst hQ9
         refine pm_vret dX7_simple_360 ?_
         first
         | (rw [if_neg k3] at hW; subst hW; exact ⟨M196, hm196, hr196⟩)
         | (rw [if_pos k3] at hW; subst hW; exact ⟨M259, hm259, hr253.reg hn h9b hp hja mt259 sl259⟩))
  · skip
    have k3 : ¬ zKind (az_t Z 0 p jb) = 3 := fun z => by rw [if_pos ((slK hsb hwb).2.2.2.mpr z)] at h188; cases h188
    refine pm_iconst (v := 1) dX7_simple_191 (by decide) ?_
    refine pm_goto (tgt := 196) dX7_simple_192 (by decide) ?_
    refine pm_vi (c_X7_bad G l bs A E M b Z s p _ _ hm hr hI hp h02 (by first | exact Or.inl rfl | exact Or.inr rfl)) pm_y_X7_bad pm_v_X7_bad pm_m_X7_202 (c := 7) (r := (RX7, TX7, 41)) rfl rfl hm.1 dX7_simple_196 rfl rfl (by decide) (Nat.le_of_ble_eq_true rfl) (fun x196 S196 h196 => ?_)
    obtain ⟨rfl, h196b⟩ := h196
    refine pm_if_eq (tgt := 205) dX7_simple_199 (by decide) (fun h199 => ?_) (fun h199 => ?_)
    · first
      | exact absurd h199 (by decide)
      | (skip
         rcases h196b with ⟨-, rfl⟩ | ⟨g0, -⟩
         case inr => exact absurd rfl g0
         refine pm_aload_n dX7_simple_205 rfl ?_
         refine pm_iload dX7_simple_206 rfl ?_
         refine pm_iconst (v := 1) dX7_simple_208 (by decide) ?_
         obtain ⟨l9, e9⟩ := hwb.k3.mp k3
         have hpt := hwb.parts k3
         have hd1 : tS (az_a Z 0) 2 ((az_t Z 0 p jb).drop 1) := by
           rcases hwb.cases with ⟨k, v, e, hk, -⟩ | ⟨r, e, h9⟩
           · rw [e] at e9; cases e9; exact absurd rfl hk
           · rw [e]; exact h9
         refine pm_vi (c_X7_behind G l bs A E M (az_a Z 0) (8 * p + jb) (az_t Z 0 p jb) _ hm (by omega) hsb hd1) pm_y_X7_behind pm_v_X7_behind pm_m_X7_236 (c := 7) (r := (RX7, TX7, 41)) rfl rfl hm.1 dX7_simple_209 rfl rfl (by decide) (Nat.le_of_ble_eq_true rfl) (fun x209 S209 h209 => ?_)
         obtain ⟨rfl, rfl⟩ := h209
         refine pm_istore dX7_simple_212 (by decide) ?_
         dsimp only [List.set]
         refine pm_iload_n dX7_simple_214 rfl ?_
         refine pm_bipush (v := 8) dX7_simple_215 (by decide) ?_
         refine pm_icmp_ne (tgt := 235) dX7_simple_217 (by decide) (fun h217 => ?_) (fun h217 => ?_)
         · skip
           skip
           refine pm_aload_n dX7_simple_235 rfl ?_
           refine pm_sipush (v := 2940) dX7_simple_236 (by decide) ?_
           refine pm_iload dX7_simple_239 rfl ?_
           refine pm_iload dX7_simple_241 rfl ?_
           refine pm_aload_n dX7_simple_243 rfl ?_
           refine pm_g_Model_sizes hm.1 pm_f_X7_14 (hm.2.1 1 (by decide)).1 dX7_simple_244 ?_
           refine pm_iload dX7_simple_247 rfl ?_
           refine mm_iaload (n := _) hm (by decide) rfl (by show _ < 2945; omega) dX7_simple_249 ?_
           rw [hsb.2.1]
           refine pm_vv (c_X7_part G l bs A E M 2940 (8 * p + jb) (tl_e 95 (az_t Z 0 p jb) 1 1) (az_t Z 0 p jb).length (az_t Z 0 p jb) _ hm (by decide) (by omega) (by omega) hpt.2.2.2 (Nat.le_refl _) hsb) pm_y_X7_part pm_v_X7_part pm_m_X7_239 (c := 7) (r := (RX7, TX7, 41)) rfl rfl hm.1 dX7_simple_250 rfl rfl (by decide) (Nat.le_of_ble_eq_true rfl) (fun S250 h250 => ?_)
           obtain ⟨M253, hm253, mt253, sl253⟩ := h250
           have hr253 := hr.T hn h9b mt253 (by decide)
           refine pm_aload_n dX7_simple_253 rfl ?_
           refine pm_iload dX7_simple_254 rfl ?_
           refine pm_sipush (v := 2940) dX7_simple_256 (by decide) ?_
           refine pm_vv (c_X7_copy G l bs A E M253 (8 * p + ja) 2940 _ _ hm253 (by omega) (by omega) sl253) pm_y_X7_copy pm_v_X7_copy pm_m_X7_136 (c := 7) (r := (RX7, TX7, 41)) rfl rfl hm253.1 dX7_simple_259 rfl rfl (by decide) (Nat.le_of_ble_eq_true rfl) (fun S259 h259 => ?_)
           obtain ⟨M259, hm259, mt259, sl259⟩ := h259
           refine pm_goto (tgt := 360) dX7_simple_262 (by decide) ?_
           subst hQ9
           refine pm_vret dX7_simple_360 ?_
           first
           | (rw [if_neg k3] at hW; subst hW; exact ⟨M196, hm196, hr196⟩)
           | (rw [if_pos k3] at hW; subst hW; exact ⟨M259, hm259, hr253.reg hn h9b hp hja mt259 sl259⟩)
         · exact absurd h217 (by decide))
    · first
      | exact absurd rfl h199
      | (skip
         rcases h196b with ⟨g0, -⟩ | ⟨-, M196, hm196, hr196⟩
         case inl => exact absurd g0 (by decide)
         refine pm_goto (tgt := 360) dX7_simple_202 (by decide) ?_
         subst hQ9
         refine pm_vret dX7_simple_360 ?_
         first
         | (rw [if_neg k3] at hW; subst hW; exact ⟨M196, hm196, hr196⟩)
         | (rw [if_pos k3] at hW; subst hW; exact ⟨M259, hm259, hr253.reg hn h9b hp hja mt259 sl259⟩))

set_option maxHeartbeats 4000000 in
set_option maxRecDepth 100000 in
theorem m_10 (G : pm_G) (l : Launch) (bs : Nat) (A : Nat → Nat) (E : pm_S) (M : pm_N) (b : Nat) (Z : az) (s : Nat) (p ja jb jc : Nat) (a bb c : Int32) (vo v9 v10 v11 : Value) (W : az) (S : pm_S) (hm : pm_MX M S A E) (hr : mR b Z M) (hI : zI s Z) (hp : p < az_a Z 0) (h0 : az_b Z 1 p = 0) (hja : ja < 8) (hjb : jb < 8) (hjc : jc < 8) (hW : zs_t Z 0 p ja [0, zKind (az_t Z 0 p jb)] = W) : pm_W G l bs yX7_simple.cls cX7_simple 10 false 6 0 0 (pm_xv (fun S2 => ∃ M2, pm_MX M2 S2 A E ∧ mR b W M2)) 265 [.ref (A 50), .int (nI p), vo, .int a, .int bb, .int (nI (8 * p + ja)), .int (nI (8 * p + jb)), .int (nI (8 * p + jc)), .int (nI (pm_mod a 300)), v9] [] S := by
  have hn := hI.1
  have hsm := hI.sm
  have h9b := hI.b9
  have h02 : az_b Z 1 p ≠ 2 := by omega
  have hsa := hr.G hp hja
  have hsb := hr.G hp hjb
  have hsc := hr.G hp hjc
  have hwa := hI.rg hp hja
  have hwb := hI.rg hp hjb
  have hwc := hI.rg hp hjc
  have hla := hwa.len
  have hlb := hwb.len
  have hlc := hwc.len
  generalize hQ9 : pm_xv (fun S2 => ∃ M2, pm_MX M2 S2 A E ∧ mR b W M2) = Q9
  refine pm_aload_n dX7_simple_265 rfl ?_
  refine pm_iload dX7_simple_266 rfl ?_
  refine pm_iconst (v := 0) dX7_simple_268 (by decide) ?_
  refine pm_aload_n dX7_simple_269 rfl ?_
  refine pm_iload dX7_simple_270 rfl ?_
  refine pm_iconst (v := (-1)) dX7_simple_272 (by decide) ?_
  refine pm_vi (c_X7_is G l bs A E M (8 * p + jb) (-1) _ hm (by omega)) pm_y_X7_is pm_v_X7_is pm_m_X7_178 (c := 7) (r := (RX7, TX7, 41)) rfl rfl hm.1 dX7_simple_273 rfl rfl (by decide) (Nat.le_of_ble_eq_true rfl) (fun x273 S273 h273 => ?_)
  obtain ⟨rfl, rfl⟩ := h273
  refine pm_if_eq (tgt := 283) dX7_simple_276 (by decide) (fun h276 => ?_) (fun h276 => ?_)
  · skip
    have k3 : ¬ zKind (az_t Z 0 p jb) = 3 := fun z => by rw [if_pos ((slK hsb hwb).2.2.2.mpr z)] at h276; cases h276
    refine pm_aload_n dX7_simple_283 rfl ?_
    refine pm_iload dX7_simple_284 rfl ?_
    refine pm_vi (c_X7_kindOf G l bs A E M (8 * p + jb) _ hm (by omega)) pm_y_X7_kindOf pm_v_X7_kindOf pm_m_X7_106 (c := 7) (r := (RX7, TX7, 41)) rfl rfl hm.1 dX7_simple_286 rfl rfl (by decide) (Nat.le_of_ble_eq_true rfl) (fun x286 S286 h286 => ?_)
    obtain ⟨rfl, rfl⟩ := h286
    rw [slKr hsb hwb k3]
    try rw [show (3 : Int32) = zKind (az_t Z 0 p jb) from k3.symm]
    refine pm_vv (c_X7_set G l bs A E M (8 * p + ja) 0 (zKind (az_t Z 0 p jb)) _ hm (by omega)) pm_y_X7_set pm_v_X7_set pm_m_X7_124 (c := 7) (r := (RX7, TX7, 41)) rfl rfl hm.1 dX7_simple_289 rfl rfl (by decide) (Nat.le_of_ble_eq_true rfl) (fun S289 h289 => ?_)
    obtain ⟨M289, hm289, mt289, sl289⟩ := h289
    refine pm_goto (tgt := 360) dX7_simple_292 (by decide) ?_
    subst hQ9
    refine pm_vret dX7_simple_360 ?_
    subst hW
    exact ⟨M289, hm289, hr.reg hn h9b hp hja mt289 sl289⟩
  · skip
    have k3 : zKind (az_t Z 0 p jb) = 3 := (slK hsb hwb).2.2.2.mp (Classical.byContradiction (fun z => h276 (if_neg z)))
    refine pm_iconst (v := 3) dX7_simple_279 (by decide) ?_
    refine pm_goto (tgt := 289) dX7_simple_280 (by decide) ?_
    try rw [show (3 : Int32) = zKind (az_t Z 0 p jb) from k3.symm]
    refine pm_vv (c_X7_set G l bs A E M (8 * p + ja) 0 (zKind (az_t Z 0 p jb)) _ hm (by omega)) pm_y_X7_set pm_v_X7_set pm_m_X7_124 (c := 7) (r := (RX7, TX7, 41)) rfl rfl hm.1 dX7_simple_289 rfl rfl (by decide) (Nat.le_of_ble_eq_true rfl) (fun S289 h289 => ?_)
    obtain ⟨M289, hm289, mt289, sl289⟩ := h289
    refine pm_goto (tgt := 360) dX7_simple_292 (by decide) ?_
    subst hQ9
    refine pm_vret dX7_simple_360 ?_
    subst hW
    exact ⟨M289, hm289, hr.reg hn h9b hp hja mt289 sl289⟩

set_option maxHeartbeats 4000000 in
set_option maxRecDepth 100000 in
theorem m_11 (G : pm_G) (l : Launch) (bs : Nat) (A : Nat → Nat) (E : pm_S) (M : pm_N) (b : Nat) (Z : az) (s : Nat) (p ja jb jc : Nat) (a bb c : Int32) (vo v9 v10 v11 : Value) (W : az) (S : pm_S) (hm : pm_MX M S A E) (hr : mR b Z M) (hI : zI s Z) (hp : p < az_a Z 0) (h0 : az_b Z 1 p = 0) (hja : ja < 8) (hjb : jb < 8) (hjc : jc < 8) (hW : zAt Z p (pm_mod a 300) = W) : pm_W G l bs yX7_simple.cls cX7_simple 10 false 6 0 0 (pm_xv (fun S2 => ∃ M2, pm_MX M2 S2 A E ∧ mR b W M2)) 295 [.ref (A 50), .int (nI p), vo, .int a, .int bb, .int (nI (8 * p + ja)), .int (nI (8 * p + jb)), .int (nI (8 * p + jc)), .int (nI (pm_mod a 300)), v9] [] S := by
  have hn := hI.1
  have hsm := hI.sm
  have h9b := hI.b9
  have h02 : az_b Z 1 p ≠ 2 := by omega
  have hsa := hr.G hp hja
  have hsb := hr.G hp hjb
  have hsc := hr.G hp hjc
  have hwa := hI.rg hp hja
  have hwb := hI.rg hp hjb
  have hwc := hI.rg hp hjc
  have hla := hwa.len
  have hlb := hwb.len
  have hlc := hwc.len
  generalize hQ9 : pm_xv (fun S2 => ∃ M2, pm_MX M2 S2 A E ∧ mR b W M2) = Q9
  refine pm_aload_n dX7_simple_295 rfl ?_
  refine pm_g_Model_place hm.1 pm_f_X7_32 (hm.2.1 7 (by decide)).1 dX7_simple_296 ?_
  refine pm_iload_n dX7_simple_299 rfl ?_
  refine pm_iload dX7_simple_300 rfl ?_
  refine mm_iastore (n := _) hm (by decide) rfl (by show _ < 60; omega) dX7_simple_302 (fun S302 hm302 => ?_)
  refine pm_goto (tgt := 360) dX7_simple_303 (by decide) ?_
  subst hQ9
  refine pm_vret dX7_simple_360 ?_
  subst hW
  exact ⟨_, hm302, hr.b0 (s := 7) (i := 2) hp rfl (by decide)⟩

set_option maxHeartbeats 4000000 in
set_option maxRecDepth 100000 in
theorem m_12 (G : pm_G) (l : Launch) (bs : Nat) (A : Nat → Nat) (E : pm_S) (M : pm_N) (b : Nat) (Z : az) (s : Nat) (p ja jb jc : Nat) (a bb c : Int32) (vo v9 v10 v11 : Value) (W : az) (S : pm_S) (hm : pm_MX M S A E) (hr : mR b Z M) (hI : zI s Z) (hp : p < az_a Z 0) (h0 : az_b Z 1 p = 0) (hja : ja < 8) (hjb : jb < 8) (hjc : jc < 8) (hW : (if zCmp (az_t Z 0 p jb) (az_t Z 0 p jc) = 0 then zAt Z p (pm_mod a 300) else Z) = W) : pm_W G l bs yX7_simple.cls cX7_simple 10 false 6 0 0 (pm_xv (fun S2 => ∃ M2, pm_MX M2 S2 A E ∧ mR b W M2)) 306 [.ref (A 50), .int (nI p), .int 12, .int a, .int bb, .int (nI (8 * p + ja)), .int (nI (8 * p + jb)), .int (nI (8 * p + jc)), .int (nI (pm_mod a 300)), v9] [] S := by
  have hn := hI.1
  have hsm := hI.sm
  have h9b := hI.b9
  have h02 : az_b Z 1 p ≠ 2 := by omega
  have hsa := hr.G hp hja
  have hsb := hr.G hp hjb
  have hsc := hr.G hp hjc
  have hwa := hI.rg hp hja
  have hwb := hI.rg hp hjb
  have hwc := hI.rg hp hjc
  have hla := hwa.len
  have hlb := hwb.len
  have hlc := hwc.len
  generalize hQ9 : pm_xv (fun S2 => ∃ M2, pm_MX M2 S2 A E ∧ mR b W M2) = Q9
  refine pm_aload_n dX7_simple_306 rfl ?_
  refine pm_iload dX7_simple_307 rfl ?_
  refine pm_iload dX7_simple_309 rfl ?_
  refine pm_vi (c_X7_compare G l bs A E M (az_a Z 0) (8 * p + jb) (8 * p + jc) (az_t Z 0 p jb) (az_t Z 0 p jc) _ hm (by omega) (by omega) hsb hsc hwb hwc) pm_y_X7_compare pm_v_X7_compare pm_m_X7_242 (c := 7) (r := (RX7, TX7, 41)) rfl rfl hm.1 dX7_simple_311 rfl rfl (by decide) (Nat.le_of_ble_eq_true rfl) (fun x311 S311 h311 => ?_)
  obtain ⟨rfl, rfl⟩ := h311
  refine pm_istore dX7_simple_314 (by decide) ?_
  dsimp only [List.set]
  refine pm_iload_n dX7_simple_316 rfl ?_
  refine pm_bipush (v := 12) dX7_simple_317 (by decide) ?_
  refine pm_icmp_ne (tgt := 330) dX7_simple_319 (by decide) (fun h319 => ?_) (fun h319 => ?_)
  · exact absurd rfl h319
  · skip
    skip
    refine pm_iload dX7_simple_322 rfl ?_
    refine pm_if_ne (tgt := 360) dX7_simple_324 (by decide) (fun h324 => ?_) (fun h324 => ?_)
    · skip
      have k1 : ¬ (zCmp (az_t Z 0 p jb) (az_t Z 0 p jc) = 0) := h324
      subst hQ9
      refine pm_vret dX7_simple_360 ?_
      first
      | (rw [if_neg k1] at hW; subst hW; exact ⟨M, hm, hr⟩)
      | (rw [if_pos k1] at hW; subst hW; exact ⟨_, hm356, hr.b0 (s := 7) (i := 2) hp rfl (by decide)⟩)
    · skip
      have k1 : zCmp (az_t Z 0 p jb) (az_t Z 0 p jc) = 0 := h324
      refine pm_goto (tgt := 349) dX7_simple_327 (by decide) ?_
      refine pm_aload_n dX7_simple_349 rfl ?_
      refine pm_g_Model_place hm.1 pm_f_X7_32 (hm.2.1 7 (by decide)).1 dX7_simple_350 ?_
      refine pm_iload_n dX7_simple_353 rfl ?_
      refine pm_iload dX7_simple_354 rfl ?_
      refine mm_iastore (n := _) hm (by decide) rfl (by show _ < 60; omega) dX7_simple_356 (fun S356 hm356 => ?_)
      refine pm_goto (tgt := 360) dX7_simple_357 (by decide) ?_
      subst hQ9
      refine pm_vret dX7_simple_360 ?_
      first
      | (rw [if_neg k1] at hW; subst hW; exact ⟨M, hm, hr⟩)
      | (rw [if_pos k1] at hW; subst hW; exact ⟨_, hm356, hr.b0 (s := 7) (i := 2) hp rfl (by decide)⟩)

set_option maxHeartbeats 4000000 in
set_option maxRecDepth 100000 in
theorem m_13 (G : pm_G) (l : Launch) (bs : Nat) (A : Nat → Nat) (E : pm_S) (M : pm_N) (b : Nat) (Z : az) (s : Nat) (p ja jb jc : Nat) (a bb c : Int32) (vo v9 v10 v11 : Value) (W : az) (S : pm_S) (hm : pm_MX M S A E) (hr : mR b Z M) (hI : zI s Z) (hp : p < az_a Z 0) (h0 : az_b Z 1 p = 0) (hja : ja < 8) (hjb : jb < 8) (hjc : jc < 8) (hW : (if zCmp (az_t Z 0 p jb) (az_t Z 0 p jc) < 0 then zAt Z p (pm_mod a 300) else Z) = W) : pm_W G l bs yX7_simple.cls cX7_simple 10 false 6 0 0 (pm_xv (fun S2 => ∃ M2, pm_MX M2 S2 A E ∧ mR b W M2)) 306 [.ref (A 50), .int (nI p), .int 13, .int a, .int bb, .int (nI (8 * p + ja)), .int (nI (8 * p + jb)), .int (nI (8 * p + jc)), .int (nI (pm_mod a 300)), v9] [] S := by
  have hn := hI.1
  have hsm := hI.sm
  have h9b := hI.b9
  have h02 : az_b Z 1 p ≠ 2 := by omega
  have hsa := hr.G hp hja
  have hsb := hr.G hp hjb
  have hsc := hr.G hp hjc
  have hwa := hI.rg hp hja
  have hwb := hI.rg hp hjb
  have hwc := hI.rg hp hjc
  have hla := hwa.len
  have hlb := hwb.len
  have hlc := hwc.len
  generalize hQ9 : pm_xv (fun S2 => ∃ M2, pm_MX M2 S2 A E ∧ mR b W M2) = Q9
  refine pm_aload_n dX7_simple_306 rfl ?_
  refine pm_iload dX7_simple_307 rfl ?_
  refine pm_iload dX7_simple_309 rfl ?_
  refine pm_vi (c_X7_compare G l bs A E M (az_a Z 0) (8 * p + jb) (8 * p + jc) (az_t Z 0 p jb) (az_t Z 0 p jc) _ hm (by omega) (by omega) hsb hsc hwb hwc) pm_y_X7_compare pm_v_X7_compare pm_m_X7_242 (c := 7) (r := (RX7, TX7, 41)) rfl rfl hm.1 dX7_simple_311 rfl rfl (by decide) (Nat.le_of_ble_eq_true rfl) (fun x311 S311 h311 => ?_)
  obtain ⟨rfl, rfl⟩ := h311
  refine pm_istore dX7_simple_314 (by decide) ?_
  dsimp only [List.set]
  refine pm_iload_n dX7_simple_316 rfl ?_
  refine pm_bipush (v := 12) dX7_simple_317 (by decide) ?_
  refine pm_icmp_ne (tgt := 330) dX7_simple_319 (by decide) (fun h319 => ?_) (fun h319 => ?_)
  · skip
    skip
    refine pm_iload_n dX7_simple_330 rfl ?_
    refine pm_bipush (v := 13) dX7_simple_331 (by decide) ?_
    refine pm_icmp_ne (tgt := 344) dX7_simple_333 (by decide) (fun h333 => ?_) (fun h333 => ?_)
    · exact absurd rfl h333
    · skip
      skip
      refine pm_iload dX7_simple_336 rfl ?_
      refine pm_if_ge (tgt := 360) dX7_simple_338 (by decide) (fun h338 => ?_) (fun h338 => ?_)
      · skip
        have k1 : ¬ (zCmp (az_t Z 0 p jb) (az_t Z 0 p jc) < 0) := Int32.not_lt.mpr h338
        subst hQ9
        refine pm_vret dX7_simple_360 ?_
        first
        | (rw [if_neg k1] at hW; subst hW; exact ⟨M, hm, hr⟩)
        | (rw [if_pos k1] at hW; subst hW; exact ⟨_, hm356, hr.b0 (s := 7) (i := 2) hp rfl (by decide)⟩)
      · skip
        have k1 : zCmp (az_t Z 0 p jb) (az_t Z 0 p jc) < 0 := Int32.not_le.mp h338
        refine pm_goto (tgt := 349) dX7_simple_341 (by decide) ?_
        refine pm_aload_n dX7_simple_349 rfl ?_
        refine pm_g_Model_place hm.1 pm_f_X7_32 (hm.2.1 7 (by decide)).1 dX7_simple_350 ?_
        refine pm_iload_n dX7_simple_353 rfl ?_
        refine pm_iload dX7_simple_354 rfl ?_
        refine mm_iastore (n := _) hm (by decide) rfl (by show _ < 60; omega) dX7_simple_356 (fun S356 hm356 => ?_)
        refine pm_goto (tgt := 360) dX7_simple_357 (by decide) ?_
        subst hQ9
        refine pm_vret dX7_simple_360 ?_
        first
        | (rw [if_neg k1] at hW; subst hW; exact ⟨M, hm, hr⟩)
        | (rw [if_pos k1] at hW; subst hW; exact ⟨_, hm356, hr.b0 (s := 7) (i := 2) hp rfl (by decide)⟩)
  · exact absurd h319 (by decide)

set_option maxHeartbeats 4000000 in
set_option maxRecDepth 100000 in
theorem m_14 (G : pm_G) (l : Launch) (bs : Nat) (A : Nat → Nat) (E : pm_S) (M : pm_N) (b : Nat) (Z : az) (s : Nat) (p ja jb jc : Nat) (a bb c : Int32) (vo v9 v10 v11 : Value) (W : az) (S : pm_S) (hm : pm_MX M S A E) (hr : mR b Z M) (hI : zI s Z) (hp : p < az_a Z 0) (h0 : az_b Z 1 p = 0) (hja : ja < 8) (hjb : jb < 8) (hjc : jc < 8) (hW : (if zCmp (az_t Z 0 p jb) (az_t Z 0 p jc) ≤ 0 then zAt Z p (pm_mod a 300) else Z) = W) : pm_W G l bs yX7_simple.cls cX7_simple 10 false 6 0 0 (pm_xv (fun S2 => ∃ M2, pm_MX M2 S2 A E ∧ mR b W M2)) 306 [.ref (A 50), .int (nI p), .int 14, .int a, .int bb, .int (nI (8 * p + ja)), .int (nI (8 * p + jb)), .int (nI (8 * p + jc)), .int (nI (pm_mod a 300)), v9] [] S := by
  have hn := hI.1
  have hsm := hI.sm
  have h9b := hI.b9
  have h02 : az_b Z 1 p ≠ 2 := by omega
  have hsa := hr.G hp hja
  have hsb := hr.G hp hjb
  have hsc := hr.G hp hjc
  have hwa := hI.rg hp hja
  have hwb := hI.rg hp hjb
  have hwc := hI.rg hp hjc
  have hla := hwa.len
  have hlb := hwb.len
  have hlc := hwc.len
  generalize hQ9 : pm_xv (fun S2 => ∃ M2, pm_MX M2 S2 A E ∧ mR b W M2) = Q9
  refine pm_aload_n dX7_simple_306 rfl ?_
  refine pm_iload dX7_simple_307 rfl ?_
  refine pm_iload dX7_simple_309 rfl ?_
  refine pm_vi (c_X7_compare G l bs A E M (az_a Z 0) (8 * p + jb) (8 * p + jc) (az_t Z 0 p jb) (az_t Z 0 p jc) _ hm (by omega) (by omega) hsb hsc hwb hwc) pm_y_X7_compare pm_v_X7_compare pm_m_X7_242 (c := 7) (r := (RX7, TX7, 41)) rfl rfl hm.1 dX7_simple_311 rfl rfl (by decide) (Nat.le_of_ble_eq_true rfl) (fun x311 S311 h311 => ?_)
  obtain ⟨rfl, rfl⟩ := h311
  refine pm_istore dX7_simple_314 (by decide) ?_
  dsimp only [List.set]
  refine pm_iload_n dX7_simple_316 rfl ?_
  refine pm_bipush (v := 12) dX7_simple_317 (by decide) ?_
  refine pm_icmp_ne (tgt := 330) dX7_simple_319 (by decide) (fun h319 => ?_) (fun h319 => ?_)
  · skip
    skip
    refine pm_iload_n dX7_simple_330 rfl ?_
    refine pm_bipush (v := 13) dX7_simple_331 (by decide) ?_
    refine pm_icmp_ne (tgt := 344) dX7_simple_333 (by decide) (fun h333 => ?_) (fun h333 => ?_)
    · skip
      skip
      refine pm_iload dX7_simple_344 rfl ?_
      refine pm_if_gt (tgt := 360) dX7_simple_346 (by decide) (fun h346 => ?_) (fun h346 => ?_)
      · skip
        have k1 : ¬ (zCmp (az_t Z 0 p jb) (az_t Z 0 p jc) ≤ 0) := Int32.not_le.mpr h346
        subst hQ9
        refine pm_vret dX7_simple_360 ?_
        first
        | (rw [if_neg k1] at hW; subst hW; exact ⟨M, hm, hr⟩)
        | (rw [if_pos k1] at hW; subst hW; exact ⟨_, hm356, hr.b0 (s := 7) (i := 2) hp rfl (by decide)⟩)
      · skip
        have k1 : zCmp (az_t Z 0 p jb) (az_t Z 0 p jc) ≤ 0 := Int32.not_lt.mp h346
        refine pm_aload_n dX7_simple_349 rfl ?_
        refine pm_g_Model_place hm.1 pm_f_X7_32 (hm.2.1 7 (by decide)).1 dX7_simple_350 ?_
        refine pm_iload_n dX7_simple_353 rfl ?_
        refine pm_iload dX7_simple_354 rfl ?_
        refine mm_iastore (n := _) hm (by decide) rfl (by show _ < 60; omega) dX7_simple_356 (fun S356 hm356 => ?_)
        refine pm_goto (tgt := 360) dX7_simple_357 (by decide) ?_
        subst hQ9
        refine pm_vret dX7_simple_360 ?_
        first
        | (rw [if_neg k1] at hW; subst hW; exact ⟨M, hm, hr⟩)
        | (rw [if_pos k1] at hW; subst hW; exact ⟨_, hm356, hr.b0 (s := 7) (i := 2) hp rfl (by decide)⟩)
    · exact absurd h333 (by decide)
  · exact absurd h319 (by decide)

set_option maxHeartbeats 4000000 in
set_option maxRecDepth 100000 in
theorem m_15 (G : pm_G) (l : Launch) (bs : Nat) (A : Nat → Nat) (E : pm_S) (M : pm_N) (b : Nat) (Z : az) (s : Nat) (p ja jb jc : Nat) (a bb c : Int32) (vo v9 v10 v11 : Value) (W : az) (S : pm_S) (hm : pm_MX M S A E) (hr : mR b Z M) (hI : zI s Z) (hp : p < az_a Z 0) (h0 : az_b Z 1 p = 0) (hja : ja < 8) (hjb : jb < 8) (hjc : jc < 8) (hW : (if az_b Z 7 p < 16 then zAt (zs_b (zs_c Z 0 p (az_b Z 7 p) (az_b Z 2 p)) 7 p (az_b Z 7 p + 1)) p (pm_mod a 300) else zLim Z p) = W) : pm_W G l bs yX7_calls.cls cX7_calls 8 false 4 0 0 (pm_xv (fun S2 => ∃ M2, pm_MX M2 S2 A E ∧ mR b W M2)) 40 [.ref (A 50), .int (nI p), vo, .int bb, .int (nI (8 * p + ja)), .int (nI (8 * p + jc)), .int (nI (pm_mod a 300)), v9] [] S := by
  have hn := hI.1
  have hsm := hI.sm
  have h9b := hI.b9
  have h02 : az_b Z 1 p ≠ 2 := by omega
  have hsa := hr.G hp hja
  have hsb := hr.G hp hjb
  have hsc := hr.G hp hjc
  have hwa := hI.rg hp hja
  have hwb := hI.rg hp hjb
  have hwc := hI.rg hp hjc
  have hla := hwa.len
  have hlb := hwb.len
  have hlc := hwc.len
  generalize hQ9 : pm_xv (fun S2 => ∃ M2, pm_MX M2 S2 A E ∧ mR b W M2) = Q9
  have b7 : az_b Z 7 p ≤ 16 := hI.b hp 7
  refine pm_aload_n dX7_calls_40 rfl ?_
  refine pm_g_Model_backCount hm.1 pm_f_X7_54 (hm.2.1 14 (by decide)).1 dX7_calls_41 ?_
  refine pm_iload_n dX7_calls_44 rfl ?_
  refine mm_iaload (n := _) hm (by decide) rfl (by show _ < 60; omega) dX7_calls_45 ?_
  refine pm_bipush (v := 16) dX7_calls_46 (by decide) ?_
  rw [hr.B (i := 7) hp rfl]
  refine pm_icmp_ne (tgt := 61) dX7_calls_48 (by decide) (fun h48 => ?_) (fun h48 => ?_)
  · skip
    have g1 : az_b Z 7 p < 16 := by have q : ¬ az_b Z 7 p = 16 := fun z => h48 (by rw [z]; rfl); omega
    refine pm_aload_n dX7_calls_61 rfl ?_
    refine pm_g_Model_backs hm.1 pm_f_X7_51 (hm.2.1 13 (by decide)).1 dX7_calls_62 ?_
    refine pm_bipush (v := 16) dX7_calls_65 (by decide) ?_
    refine pm_iload_n dX7_calls_67 rfl ?_
    refine pm_imul dX7_calls_68 ?_
    refine pm_aload_n dX7_calls_69 rfl ?_
    refine pm_g_Model_backCount hm.1 pm_f_X7_54 (hm.2.1 14 (by decide)).1 dX7_calls_70 ?_
    refine pm_iload_n dX7_calls_73 rfl ?_
    refine mm_iaload (n := _) hm (by decide) rfl (by show _ < 60; omega) dX7_calls_74 ?_
    refine pm_iadd dX7_calls_75 ?_
    refine pm_aload_n dX7_calls_76 rfl ?_
    refine pm_g_Model_place hm.1 pm_f_X7_32 (hm.2.1 7 (by decide)).1 dX7_calls_77 ?_
    refine pm_iload_n dX7_calls_80 rfl ?_
    refine mm_iaload (n := _) hm (by decide) rfl (by show _ < 60; omega) dX7_calls_81 ?_
    rw [hr.B (s := 14) (i := 7) hp rfl, hr.B (s := 7) (i := 2) hp rfl]
    refine mm_iastore (n := _) hm (by decide) (by rw [show (16 : Int32) = nI 16 from rfl, pk_mul, nI_add]) (by show _ < 960; omega) dX7_calls_82 (fun S82 hm82 => ?_)
    refine pm_aload_n dX7_calls_83 rfl ?_
    refine pm_g_Model_backCount hm82.1 pm_f_X7_54 (hm82.2.1 14 (by decide)).1 dX7_calls_84 ?_
    refine pm_iload_n dX7_calls_87 rfl ?_
    refine pm_dup2 dX7_calls_88 ?_
    refine mm_iaload (n := _) hm82 (by decide) rfl (by show _ < 60; omega) dX7_calls_89 ?_
    refine pm_iconst (v := 1) dX7_calls_90 (by decide) ?_
    refine pm_iadd dX7_calls_91 ?_
    rw [mx_o (by decide), hr.B (i := 7) hp rfl, nI_1]
    refine mm_iastore (n := _) hm82 (by decide) rfl (by show _ < 60; omega) dX7_calls_92 (fun S92 hm92 => ?_)
    have hr92 := hr.push7 (v := az_b Z 2 p) hp g1 (fun q hq => hI.b hq 7)
    refine pm_aload_n dX7_calls_93 rfl ?_
    refine pm_g_Model_place hm92.1 pm_f_X7_32 (hm92.2.1 7 (by decide)).1 dX7_calls_94 ?_
    refine pm_iload_n dX7_calls_97 rfl ?_
    refine pm_iload dX7_calls_98 rfl ?_
    refine mm_iastore (n := _) hm92 (by decide) rfl (by show _ < 60; omega) dX7_calls_100 (fun S100 hm100 => ?_)
    refine pm_goto (tgt := 382) dX7_calls_101 (by decide) ?_
    subst hQ9
    refine pm_vret dX7_calls_382 ?_
    first
    | (rw [if_neg g1] at hW; subst hW; exact ⟨M55, hm55, hr55⟩)
    | (rw [if_pos g1] at hW; subst hW; exact ⟨_, hm100, hr92.b0 (s := 7) (i := 2) hp rfl (by decide)⟩)
  · skip
    have g1 : ¬ az_b Z 7 p < 16 := by have q : az_b Z 7 p = 16 := (nI_eq (b := 16) (by omega) (by decide)).mp h48; omega
    refine pm_aload_n dX7_calls_51 rfl ?_
    refine pm_iload_n dX7_calls_52 rfl ?_
    refine pm_iconst (v := 1) dX7_calls_53 (by decide) ?_
    refine pm_iconst (v := 5) dX7_calls_54 (by decide) ?_
    refine pm_vv (c_X7_failsWith G l bs A E M b Z s p 1 5 _ hm hr hI hp h02) pm_y_X7_failsWith pm_v_X7_failsWith pm_m_X7_193 (c := 7) (r := (RX7, TX7, 41)) rfl rfl hm.1 dX7_calls_55 rfl rfl (by decide) (Nat.le_of_ble_eq_true rfl) (fun S55 h55 => ?_)
    obtain ⟨M55, hm55, hr55⟩ := h55
    refine pm_goto (tgt := 382) dX7_calls_58 (by decide) ?_
    subst hQ9
    refine pm_vret dX7_calls_382 ?_
    first
    | (rw [if_neg g1] at hW; subst hW; exact ⟨M55, hm55, hr55⟩)
    | (rw [if_pos g1] at hW; subst hW; exact ⟨_, hm100, hr92.b0 (s := 7) (i := 2) hp rfl (by decide)⟩)

set_option maxHeartbeats 4000000 in
set_option maxRecDepth 100000 in
theorem m_16 (G : pm_G) (l : Launch) (bs : Nat) (A : Nat → Nat) (E : pm_S) (M : pm_N) (b : Nat) (Z : az) (s : Nat) (p ja jb jc : Nat) (a bb c : Int32) (vo v9 v10 v11 : Value) (W : az) (S : pm_S) (hm : pm_MX M S A E) (hr : mR b Z M) (hI : zI s Z) (hp : p < az_a Z 0) (h0 : az_b Z 1 p = 0) (hja : ja < 8) (hjb : jb < 8) (hjc : jc < 8) (hW : (if az_b Z 7 p = 0 then zDies Z p [1, 0] else zAt (zs_b Z 7 p (az_b Z 7 p - 1)) p (az_c Z 0 p (az_b Z 7 p - 1))) = W) : pm_W G l bs yX7_calls.cls cX7_calls 8 false 4 0 0 (pm_xv (fun S2 => ∃ M2, pm_MX M2 S2 A E ∧ mR b W M2)) 104 [.ref (A 50), .int (nI p), vo, .int bb, .int (nI (8 * p + ja)), .int (nI (8 * p + jc)), .int (nI (pm_mod a 300)), v9] [] S := by
  have hn := hI.1
  have hsm := hI.sm
  have h9b := hI.b9
  have h02 : az_b Z 1 p ≠ 2 := by omega
  have hsa := hr.G hp hja
  have hsb := hr.G hp hjb
  have hsc := hr.G hp hjc
  have hwa := hI.rg hp hja
  have hwb := hI.rg hp hjb
  have hwc := hI.rg hp hjc
  have hla := hwa.len
  have hlb := hwb.len
  have hlc := hwc.len
  generalize hQ9 : pm_xv (fun S2 => ∃ M2, pm_MX M2 S2 A E ∧ mR b W M2) = Q9
  have b7 : az_b Z 7 p ≤ 16 := hI.b hp 7
  refine pm_aload_n dX7_calls_104 rfl ?_
  refine pm_g_Model_backCount hm.1 pm_f_X7_54 (hm.2.1 14 (by decide)).1 dX7_calls_105 ?_
  refine pm_iload_n dX7_calls_108 rfl ?_
  refine mm_iaload (n := _) hm (by decide) rfl (by show _ < 60; omega) dX7_calls_109 ?_
  rw [hr.B (i := 7) hp rfl]
  refine pm_if_ne (tgt := 122) dX7_calls_110 (by decide) (fun h110 => ?_) (fun h110 => ?_)
  · skip
    have g1 : ¬ az_b Z 7 p = 0 := fun z => h110 ((pm_e0 (by omega)).mpr z)
    refine pm_aload_n dX7_calls_122 rfl ?_
    refine pm_g_Model_backCount hm.1 pm_f_X7_54 (hm.2.1 14 (by decide)).1 dX7_calls_123 ?_
    refine pm_iload_n dX7_calls_126 rfl ?_
    refine pm_dup2 dX7_calls_127 ?_
    refine mm_iaload (n := _) hm (by decide) rfl (by show _ < 60; omega) dX7_calls_128 ?_
    refine pm_iconst (v := 1) dX7_calls_129 (by decide) ?_
    refine pm_isub dX7_calls_130 ?_
    rw [hr.B (i := 7) hp rfl, show (1 : Int32) = nI 1 from rfl, pk_sub (by omega)]
    refine mm_iastore (n := _) hm (by decide) rfl (by show _ < 60; omega) dX7_calls_131 (fun S131 hm131 => ?_)
    have hr131 := hr.dn (s := 14) (i := 7) (v := az_b Z 7 p - 1) hp rfl (by decide) (by omega)
    refine pm_aload_n dX7_calls_132 rfl ?_
    refine pm_g_Model_place hm131.1 pm_f_X7_32 (hm131.2.1 7 (by decide)).1 dX7_calls_133 ?_
    refine pm_iload_n dX7_calls_136 rfl ?_
    refine pm_aload_n dX7_calls_137 rfl ?_
    refine pm_g_Model_backs hm131.1 pm_f_X7_51 (hm131.2.1 13 (by decide)).1 dX7_calls_138 ?_
    refine pm_bipush (v := 16) dX7_calls_141 (by decide) ?_
    refine pm_iload_n dX7_calls_143 rfl ?_
    refine pm_imul dX7_calls_144 ?_
    refine pm_aload_n dX7_calls_145 rfl ?_
    refine pm_g_Model_backCount hm131.1 pm_f_X7_54 (hm131.2.1 14 (by decide)).1 dX7_calls_146 ?_
    refine pm_iload_n dX7_calls_149 rfl ?_
    refine mm_iaload (n := _) hm131 (by decide) rfl (by show _ < 60; omega) dX7_calls_150 ?_
    refine pm_iadd dX7_calls_151 ?_
    rw [mx_s]
    refine mm_iaload (n := _) hm131 (by decide) (by rw [show (16 : Int32) = nI 16 from rfl, pk_mul, nI_add]) (by show _ < 960; omega) dX7_calls_152 ?_
    rw [mx_o (by decide), (hr.2.2.2.2.2.1 p hp).1 _ (by omega)]
    refine mm_iastore (n := _) hm131 (by decide) rfl (by show _ < 60; omega) dX7_calls_153 (fun S153 hm153 => ?_)
    refine pm_goto (tgt := 382) dX7_calls_154 (by decide) ?_
    subst hQ9
    refine pm_vret dX7_calls_382 ?_
    first
    | (rw [if_pos g1] at hW; subst hW; exact ⟨M116, hm116, hr116⟩)
    | (rw [if_neg g1] at hW; subst hW; exact ⟨_, hm153, hr131.b0 (s := 7) (i := 2) hp rfl (by decide)⟩)
  · skip
    have g1 : az_b Z 7 p = 0 := (pm_e0 (by omega)).mp h110
    refine pm_aload_n dX7_calls_113 rfl ?_
    refine pm_iload_n dX7_calls_114 rfl ?_
    refine pm_iconst (v := 0) dX7_calls_115 (by decide) ?_
    refine pm_vv (c_X7_endsBy G l bs A E M b Z s p 0 _ hm hr hI hp h02) pm_y_X7_endsBy pm_v_X7_endsBy pm_m_X7_229 (c := 7) (r := (RX7, TX7, 41)) rfl rfl hm.1 dX7_calls_116 rfl rfl (by decide) (Nat.le_of_ble_eq_true rfl) (fun S116 h116 => ?_)
    obtain ⟨M116, hm116, hr116⟩ := h116
    refine pm_goto (tgt := 382) dX7_calls_119 (by decide) ?_
    subst hQ9
    refine pm_vret dX7_calls_382 ?_
    first
    | (rw [if_pos g1] at hW; subst hW; exact ⟨M116, hm116, hr116⟩)
    | (rw [if_neg g1] at hW; subst hW; exact ⟨_, hm153, hr131.b0 (s := 7) (i := 2) hp rfl (by decide)⟩)

set_option maxHeartbeats 4000000 in
set_option maxRecDepth 100000 in
theorem m_17 (G : pm_G) (l : Launch) (bs : Nat) (A : Nat → Nat) (E : pm_S) (M : pm_N) (b : Nat) (Z : az) (s : Nat) (p ja jb jc : Nat) (a bb c : Int32) (vo v9 v10 v11 : Value) (W : az) (S : pm_S) (hm : pm_MX M S A E) (hr : mR b Z M) (hI : zI s Z) (hp : p < az_a Z 0) (h0 : az_b Z 1 p = 0) (hja : ja < 8) (hjb : jb < 8) (hjc : jc < 8) (hW : (if az_b Z 8 p < 8 then zs_b (zs_c (zs_c Z 1 p (az_b Z 8 p) (pm_mod a 300)) 2 p (az_b Z 8 p) (az_b Z 7 p)) 8 p (az_b Z 8 p + 1) else zLim Z p) = W) : pm_W G l bs yX7_calls.cls cX7_calls 8 false 4 0 0 (pm_xv (fun S2 => ∃ M2, pm_MX M2 S2 A E ∧ mR b W M2)) 157 [.ref (A 50), .int (nI p), vo, .int bb, .int (nI (8 * p + ja)), .int (nI (8 * p + jc)), .int (nI (pm_mod a 300)), v9] [] S := by
  have hn := hI.1
  have hsm := hI.sm
  have h9b := hI.b9
  have h02 : az_b Z 1 p ≠ 2 := by omega
  have hsa := hr.G hp hja
  have hsb := hr.G hp hjb
  have hsc := hr.G hp hjc
  have hwa := hI.rg hp hja
  have hwb := hI.rg hp hjb
  have hwc := hI.rg hp hjc
  have hla := hwa.len
  have hlb := hwb.len
  have hlc := hwc.len
  generalize hQ9 : pm_xv (fun S2 => ∃ M2, pm_MX M2 S2 A E ∧ mR b W M2) = Q9
  have b8 : az_b Z 8 p ≤ 8 := hI.b hp 8
  refine pm_aload_n dX7_calls_157 rfl ?_
  refine pm_g_Model_catchCount hm.1 pm_f_X7_63 (hm.2.1 17 (by decide)).1 dX7_calls_158 ?_
  refine pm_iload_n dX7_calls_161 rfl ?_
  refine mm_iaload (n := _) hm (by decide) rfl (by show _ < 60; omega) dX7_calls_162 ?_
  refine pm_bipush (v := 8) dX7_calls_163 (by decide) ?_
  rw [hr.B (i := 8) hp rfl]
  refine pm_icmp_ne (tgt := 178) dX7_calls_165 (by decide) (fun h165 => ?_) (fun h165 => ?_)
  · skip
    have g1 : az_b Z 8 p < 8 := by have q : ¬ az_b Z 8 p = 8 := fun z => h165 (by rw [z]; rfl); omega
    refine pm_aload_n dX7_calls_178 rfl ?_
    refine pm_g_Model_catches hm.1 pm_f_X7_57 (hm.2.1 15 (by decide)).1 dX7_calls_179 ?_
    refine pm_bipush (v := 8) dX7_calls_182 (by decide) ?_
    refine pm_iload_n dX7_calls_184 rfl ?_
    refine pm_imul dX7_calls_185 ?_
    refine pm_aload_n dX7_calls_186 rfl ?_
    refine pm_g_Model_catchCount hm.1 pm_f_X7_63 (hm.2.1 17 (by decide)).1 dX7_calls_187 ?_
    refine pm_iload_n dX7_calls_190 rfl ?_
    refine mm_iaload (n := _) hm (by decide) rfl (by show _ < 60; omega) dX7_calls_191 ?_
    refine pm_iadd dX7_calls_192 ?_
    refine pm_iload dX7_calls_193 rfl ?_
    rw [hr.B (i := 8) hp rfl]
    refine mm_iastore (n := _) hm (by decide) (by rw [show (8 : Int32) = nI 8 from rfl, pk_mul, nI_add]) (by show _ < 480; omega) dX7_calls_195 (fun S195 hm195 => ?_)
    refine pm_aload_n dX7_calls_196 rfl ?_
    refine pm_g_Model_caught hm195.1 pm_f_X7_60 (hm195.2.1 16 (by decide)).1 dX7_calls_197 ?_
    refine pm_bipush (v := 8) dX7_calls_200 (by decide) ?_
    refine pm_iload_n dX7_calls_202 rfl ?_
    refine pm_imul dX7_calls_203 ?_
    refine pm_aload_n dX7_calls_204 rfl ?_
    refine pm_g_Model_catchCount hm195.1 pm_f_X7_63 (hm195.2.1 17 (by decide)).1 dX7_calls_205 ?_
    refine pm_iload_n dX7_calls_208 rfl ?_
    refine mm_iaload (n := _) hm195 (by decide) rfl (by show _ < 60; omega) dX7_calls_209 ?_
    refine pm_iadd dX7_calls_210 ?_
    refine pm_aload_n dX7_calls_211 rfl ?_
    refine pm_g_Model_backCount hm195.1 pm_f_X7_54 (hm195.2.1 14 (by decide)).1 dX7_calls_212 ?_
    refine pm_iload_n dX7_calls_215 rfl ?_
    refine mm_iaload (n := _) hm195 (by decide) rfl (by show _ < 60; omega) dX7_calls_216 ?_
    rw [mx_o (by decide), mx_o (by decide), hr.B (s := 17) (i := 8) hp rfl, hr.B (s := 14) (i := 7) hp rfl]
    refine mm_iastore (n := _) hm195 (by decide) (by rw [show (8 : Int32) = nI 8 from rfl, pk_mul, nI_add]) (by show _ < 480; omega) dX7_calls_217 (fun S217 hm217 => ?_)
    refine pm_aload_n dX7_calls_218 rfl ?_
    refine pm_g_Model_catchCount hm217.1 pm_f_X7_63 (hm217.2.1 17 (by decide)).1 dX7_calls_219 ?_
    refine pm_iload_n dX7_calls_222 rfl ?_
    refine pm_dup2 dX7_calls_223 ?_
    refine mm_iaload (n := _) hm217 (by decide) rfl (by show _ < 60; omega) dX7_calls_224 ?_
    refine pm_iconst (v := 1) dX7_calls_225 (by decide) ?_
    refine pm_iadd dX7_calls_226 ?_
    rw [mx_o (by decide), mx_o (by decide), hr.B (i := 8) hp rfl, nI_1]
    refine mm_iastore (n := _) hm217 (by decide) rfl (by show _ < 60; omega) dX7_calls_227 (fun S227 hm227 => ?_)
    refine pm_goto (tgt := 382) dX7_calls_228 (by decide) ?_
    subst hQ9
    refine pm_vret dX7_calls_382 ?_
    first
    | (rw [if_neg g1] at hW; subst hW; exact ⟨M172, hm172, hr172⟩)
    | (rw [if_pos g1] at hW; subst hW; exact ⟨_, hm227, hr.push8 hp g1 (fun q hq => hI.b hq 8)⟩)
  · skip
    have g1 : ¬ az_b Z 8 p < 8 := by have q : az_b Z 8 p = 8 := (nI_eq (b := 8) (by omega) (by decide)).mp h165; omega
    refine pm_aload_n dX7_calls_168 rfl ?_
    refine pm_iload_n dX7_calls_169 rfl ?_
    refine pm_iconst (v := 1) dX7_calls_170 (by decide) ?_
    refine pm_iconst (v := 5) dX7_calls_171 (by decide) ?_
    refine pm_vv (c_X7_failsWith G l bs A E M b Z s p 1 5 _ hm hr hI hp h02) pm_y_X7_failsWith pm_v_X7_failsWith pm_m_X7_193 (c := 7) (r := (RX7, TX7, 41)) rfl rfl hm.1 dX7_calls_172 rfl rfl (by decide) (Nat.le_of_ble_eq_true rfl) (fun S172 h172 => ?_)
    obtain ⟨M172, hm172, hr172⟩ := h172
    refine pm_goto (tgt := 382) dX7_calls_175 (by decide) ?_
    subst hQ9
    refine pm_vret dX7_calls_382 ?_
    first
    | (rw [if_neg g1] at hW; subst hW; exact ⟨M172, hm172, hr172⟩)
    | (rw [if_pos g1] at hW; subst hW; exact ⟨_, hm227, hr.push8 hp g1 (fun q hq => hI.b hq 8)⟩)

set_option maxHeartbeats 4000000 in
set_option maxRecDepth 100000 in
theorem m_18 (G : pm_G) (l : Launch) (bs : Nat) (A : Nat → Nat) (E : pm_S) (M : pm_N) (b : Nat) (Z : az) (s : Nat) (p ja jb jc : Nat) (a bb c : Int32) (vo v9 v10 v11 : Value) (W : az) (S : pm_S) (hm : pm_MX M S A E) (hr : mR b Z M) (hI : zI s Z) (hp : p < az_a Z 0) (h0 : az_b Z 1 p = 0) (hja : ja < 8) (hjb : jb < 8) (hjc : jc < 8) (hW : (if az_b Z 8 p = 0 then Z else zs_b Z 8 p (az_b Z 8 p - 1)) = W) : pm_W G l bs yX7_calls.cls cX7_calls 8 false 4 0 0 (pm_xv (fun S2 => ∃ M2, pm_MX M2 S2 A E ∧ mR b W M2)) 231 [.ref (A 50), .int (nI p), vo, .int bb, .int (nI (8 * p + ja)), .int (nI (8 * p + jc)), .int (nI (pm_mod a 300)), v9] [] S := by
  have hn := hI.1
  have hsm := hI.sm
  have h9b := hI.b9
  have h02 : az_b Z 1 p ≠ 2 := by omega
  have hsa := hr.G hp hja
  have hsb := hr.G hp hjb
  have hsc := hr.G hp hjc
  have hwa := hI.rg hp hja
  have hwb := hI.rg hp hjb
  have hwc := hI.rg hp hjc
  have hla := hwa.len
  have hlb := hwb.len
  have hlc := hwc.len
  generalize hQ9 : pm_xv (fun S2 => ∃ M2, pm_MX M2 S2 A E ∧ mR b W M2) = Q9
  have b8 : az_b Z 8 p ≤ 8 := hI.b hp 8
  refine pm_aload_n dX7_calls_231 rfl ?_
  refine pm_g_Model_catchCount hm.1 pm_f_X7_63 (hm.2.1 17 (by decide)).1 dX7_calls_232 ?_
  refine pm_iload_n dX7_calls_235 rfl ?_
  refine pm_dup2 dX7_calls_236 ?_
  refine mm_iaload (n := _) hm (by decide) rfl (by show _ < 60; omega) dX7_calls_237 ?_
  refine pm_aload_n dX7_calls_238 rfl ?_
  refine pm_g_Model_catchCount hm.1 pm_f_X7_63 (hm.2.1 17 (by decide)).1 dX7_calls_239 ?_
  refine pm_iload_n dX7_calls_242 rfl ?_
  refine mm_iaload (n := _) hm (by decide) rfl (by show _ < 60; omega) dX7_calls_243 ?_
  rw [hr.B (i := 8) hp rfl]
  refine pm_if_le (tgt := 251) dX7_calls_244 (by decide) (fun h244 => ?_) (fun h244 => ?_)
  · skip
    have g1 : az_b Z 8 p = 0 := by rcases Nat.lt_or_ge 0 (az_b Z 8 p) with q | q; exact absurd h244 (nI_nle q (by omega)); omega
    refine pm_iconst (v := 0) dX7_calls_251 (by decide) ?_
    refine pm_isub dX7_calls_252 ?_
    try rw [show (1 : Int32) = nI 1 from rfl, pk_sub (show 1 ≤ az_b Z 8 p by omega)]
    try rw [show nI (az_b Z 8 p) - 0 = nI (az_b Z 8 p) from by rw [show (0 : Int32) = nI 0 from rfl, pk_sub (Nat.zero_le _)]; rfl]
    refine mm_iastore (n := _) hm (by decide) rfl (by show _ < 60; omega) dX7_calls_253 (fun S253 hm253 => ?_)
    refine pm_goto (tgt := 382) dX7_calls_254 (by decide) ?_
    subst hQ9
    refine pm_vret dX7_calls_382 ?_
    first
    | (rw [if_pos g1] at hW; subst hW; exact ⟨_, hm253, by have q := hr.dn (s := 17) (i := 8) (v := az_b Z 8 p) hp rfl (by decide) (Nat.le_refl _); rw [zb_id _ rfl] at q; exact q⟩)
    | (rw [if_neg g1] at hW; subst hW; exact ⟨_, hm253, hr.dn (s := 17) (i := 8) (v := az_b Z 8 p - 1) hp rfl (by decide) (by omega)⟩)
  · skip
    have g1 : ¬ az_b Z 8 p = 0 := fun z => h244 (by rw [z]; decide)
    refine pm_iconst (v := 1) dX7_calls_247 (by decide) ?_
    refine pm_goto (tgt := 252) dX7_calls_248 (by decide) ?_
    refine pm_isub dX7_calls_252 ?_
    try rw [show (1 : Int32) = nI 1 from rfl, pk_sub (show 1 ≤ az_b Z 8 p by omega)]
    try rw [show nI (az_b Z 8 p) - 0 = nI (az_b Z 8 p) from by rw [show (0 : Int32) = nI 0 from rfl, pk_sub (Nat.zero_le _)]; rfl]
    refine mm_iastore (n := _) hm (by decide) rfl (by show _ < 60; omega) dX7_calls_253 (fun S253 hm253 => ?_)
    refine pm_goto (tgt := 382) dX7_calls_254 (by decide) ?_
    subst hQ9
    refine pm_vret dX7_calls_382 ?_
    first
    | (rw [if_pos g1] at hW; subst hW; exact ⟨_, hm253, by have q := hr.dn (s := 17) (i := 8) (v := az_b Z 8 p) hp rfl (by decide) (Nat.le_refl _); rw [zb_id _ rfl] at q; exact q⟩)
    | (rw [if_neg g1] at hW; subst hW; exact ⟨_, hm253, hr.dn (s := 17) (i := 8) (v := az_b Z 8 p - 1) hp rfl (by decide) (by omega)⟩)

set_option maxHeartbeats 4000000 in
set_option maxRecDepth 100000 in
theorem m_19 (G : pm_G) (l : Launch) (bs : Nat) (A : Nat → Nat) (E : pm_S) (M : pm_N) (b : Nat) (Z : az) (s : Nat) (p ja jb jc : Nat) (a bb c : Int32) (vo v9 v10 v11 : Value) (W : az) (S : pm_S) (hm : pm_MX M S A E) (hr : mR b Z M) (hI : zI s Z) (hp : p < az_a Z 0) (h0 : az_b Z 1 p = 0) (hja : ja < 8) (hjb : jb < 8) (hjc : jc < 8) (hW : zFails Z p (az_t Z 0 p ja) = W) : pm_W G l bs yX7_calls.cls cX7_calls 8 false 4 0 0 (pm_xv (fun S2 => ∃ M2, pm_MX M2 S2 A E ∧ mR b W M2)) 257 [.ref (A 50), .int (nI p), vo, .int bb, .int (nI (8 * p + ja)), .int (nI (8 * p + jc)), .int (nI (pm_mod a 300)), v9] [] S := by
  have hn := hI.1
  have hsm := hI.sm
  have h9b := hI.b9
  have h02 : az_b Z 1 p ≠ 2 := by omega
  have hsa := hr.G hp hja
  have hsb := hr.G hp hjb
  have hsc := hr.G hp hjc
  have hwa := hI.rg hp hja
  have hwb := hI.rg hp hjb
  have hwc := hI.rg hp hjc
  have hla := hwa.len
  have hlb := hwb.len
  have hlc := hwc.len
  generalize hQ9 : pm_xv (fun S2 => ∃ M2, pm_MX M2 S2 A E ∧ mR b W M2) = Q9
  refine pm_aload_n dX7_calls_257 rfl ?_
  refine pm_sipush (v := 2940) dX7_calls_258 (by decide) ?_
  refine pm_iload dX7_calls_261 rfl ?_
  refine pm_vv (c_X7_copy G l bs A E M 2940 (8 * p + ja) (az_t Z 0 p ja) _ hm (by omega) (by omega) hsa) pm_y_X7_copy pm_v_X7_copy pm_m_X7_136 (c := 7) (r := (RX7, TX7, 41)) rfl rfl hm.1 dX7_calls_263 rfl rfl (by decide) (Nat.le_of_ble_eq_true rfl) (fun S263 h263 => ?_)
  obtain ⟨M263, hm263, mt263, sl263⟩ := h263
  refine pm_aload_n dX7_calls_266 rfl ?_
  refine pm_iload_n dX7_calls_267 rfl ?_
  refine pm_sipush (v := 2940) dX7_calls_268 (by decide) ?_
  have hr263 := hr.T hn h9b mt263 (by decide)
  refine pm_vv (c_X7_failsOf G l bs A E M263 b Z s p 2940 (az_t Z 0 p ja) _ hm263 hr263 hI hp h02 (by decide) sl263) pm_y_X7_failsOf pm_v_X7_failsOf pm_m_X7_196 (c := 7) (r := (RX7, TX7, 41)) rfl rfl hm263.1 dX7_calls_271 rfl rfl (by decide) (Nat.le_of_ble_eq_true rfl) (fun S271 h271 => ?_)
  obtain ⟨M271, hm271, hr271⟩ := h271
  refine pm_goto (tgt := 382) dX7_calls_274 (by decide) ?_
  subst hQ9
  refine pm_vret dX7_calls_382 ?_
  subst hW
  exact ⟨M271, hm271, hr271⟩

set_option maxHeartbeats 4000000 in
set_option maxRecDepth 100000 in
theorem m_20 (G : pm_G) (l : Launch) (bs : Nat) (A : Nat → Nat) (E : pm_S) (M : pm_N) (b : Nat) (Z : az) (s : Nat) (p ja jb jc : Nat) (a bb c : Int32) (vo v9 v10 v11 : Value) (W : az) (S : pm_S) (hm : pm_MX M S A E) (hr : mR b Z M) (hI : zI s Z) (hp : p < az_a Z 0) (h0 : az_b Z 1 p = 0) (hja : ja < 8) (hjb : jb < 8) (hjc : jc < 8) (hW : zs_t Z 0 p ja [2, nI (p + 1)] = W) : pm_W G l bs yX7_calls.cls cX7_calls 8 false 4 0 0 (pm_xv (fun S2 => ∃ M2, pm_MX M2 S2 A E ∧ mR b W M2)) 277 [.ref (A 50), .int (nI p), vo, .int bb, .int (nI (8 * p + ja)), .int (nI (8 * p + jc)), .int (nI (pm_mod a 300)), v9] [] S := by
  have hn := hI.1
  have hsm := hI.sm
  have h9b := hI.b9
  have h02 : az_b Z 1 p ≠ 2 := by omega
  have hsa := hr.G hp hja
  have hsb := hr.G hp hjb
  have hsc := hr.G hp hjc
  have hwa := hI.rg hp hja
  have hwb := hI.rg hp hjb
  have hwc := hI.rg hp hjc
  have hla := hwa.len
  have hlb := hwb.len
  have hlc := hwc.len
  generalize hQ9 : pm_xv (fun S2 => ∃ M2, pm_MX M2 S2 A E ∧ mR b W M2) = Q9
  refine pm_aload_n dX7_calls_277 rfl ?_
  refine pm_iload dX7_calls_278 rfl ?_
  refine pm_iconst (v := 2) dX7_calls_280 (by decide) ?_
  refine pm_iload_n dX7_calls_281 rfl ?_
  refine pm_iconst (v := 1) dX7_calls_282 (by decide) ?_
  refine pm_iadd dX7_calls_283 ?_
  rw [nI_1]
  refine pm_vv (c_X7_set G l bs A E M (8 * p + ja) 2 (nI (p + 1)) _ hm (by omega)) pm_y_X7_set pm_v_X7_set pm_m_X7_124 (c := 7) (r := (RX7, TX7, 41)) rfl rfl hm.1 dX7_calls_284 rfl rfl (by decide) (Nat.le_of_ble_eq_true rfl) (fun S284 h284 => ?_)
  obtain ⟨M284, hm284, mt284, sl284⟩ := h284
  refine pm_goto (tgt := 382) dX7_calls_287 (by decide) ?_
  subst hQ9
  refine pm_vret dX7_calls_382 ?_
  subst hW
  exact ⟨M284, hm284, hr.reg hn h9b hp hja mt284 sl284⟩

