/-! ProcessMill: exits, links, watches, messages to others -/
theorem pm_CX.lt {Z : az} {S E : pm_S} {Y : pm_Y} {p c d : Nat} (hx : pm_CX Z S Y E) (hp : p < az_a Z 0) (hc : lv (az_a Z 0) Y.2.1 (pq p c)) (hd : d < 15) : Y.1 (pq p c) ≠ Y.1 d := fun e => by
  have := hx.1.1 _ _ hc (lv_c hd) e
  unfold pq at this
  omega
def zLnk (Z : az) (p : Nat) (q : Option Nat) : az := match q with
  | none => Z
  | some r => if az_b Z 1 r = 2 then zExit Z p r [1, 3] false else if r = p then Z else zLink Z p r true
def zWt (Z : az) (p j : Nat) (q : Option Nat) : az := match q with
  | none => Z
  | some r => if 200 ≤ (az_w Z).length then Z else
      if az_b Z 1 r = 2 then zDown (zs_t (zs_a Z 8 (az_a Z 8 + 1)) 0 p j [0, nI (az_a Z 8 + 1)]) p (az_a Z 8 + 1) r [1, 3]
      else zs_w (zs_t (zs_a Z 8 (az_a Z 8 + 1)) 0 p j [0, nI (az_a Z 8 + 1)]) (az_w Z ++ [(az_a Z 8 + 1, p, r)])
def zExw (Z : az) (p : Nat) (q : Option Nat) (w : List Int32) : az := match q with
  | none => Z
  | some r => zExit Z r p w true
/-- of a term that names a process, which -/
def zTo (Z : az) (u : List Int32) : Option Nat := if zKind u = 2 then (if 1 ≤ (zVal u).toInt ∧ (zVal u).toInt ≤ az_a Z 0 then some (zPid u) else none) else none
def zAd (Z : az) (u : List Int32) : Option Nat := if zKind u = 1 then (if 0 ≤ (zVal u).toInt ∧ (zVal u).toInt < 100 then az_e Z 2 (zVal u).toInt.toNat else none) else zTo Z u
def zPst (Z : az) (u w : List Int32) : az := match zAd Z u with
  | none => Z
  | some q => zComes Z q w
set_option maxHeartbeats 4000000 in
set_option maxRecDepth 100000 in
theorem c_X6_getExit (G : pm_G) (l : Launch) (bs : Nat) (Z : az) (Y : pm_Y) (E : pm_S) (s : Nat) (p q t r : Nat) (w : List Int32) (g : Int32) (byW : Bool) (S : pm_S) (hx : pm_CX Z S Y E) (hI : zI s Z) (hp : p < az_a Z 0) (hq : q < az_a Z 0) (ht : pm_tm S t r w) (hw : tW (az_a Z 0) w) (nt : t ≠ Y.1 11) (nr : r ≠ Y.1 12) (hg : g = if byW = true then 1 else 0) : pm_M G l bs yX6_getExit cX6_getExit 5 none 4 (zU (zExit Z p q w byW) - zU Z) (49 * (zU (zExit Z p q w byW) - zU Z)) [.ref (Y.1 0), .ref (Y.1 (pq p 0)), .int (nI (q + 1)), .ref t, .int g] S (pm_qv (fun S2 => ∃ Y2, yLe (az_a Z 0) Y Y2 ∧ pm_CX (zExit Z p q w byW) S2 Y2 E)) := by
  have hn := hI.1
  have hsm := hI.sm
  have hl := hw.len
  obtain ⟨h, hmk⟩ := id hx
  have hA := h.2.2.2.2.2.1
  obtain ⟨⟨hk0, hr0, hr1, hr2, hr3, hr4, hr5, hr6, hr7⟩, ⟨hk1, hl1⟩, ⟨hk2, hl2⟩, ⟨hk3, hl3⟩, ⟨hk4, hl4⟩, hWt, hSh, hLt, hCs⟩ := id h.2.2.1
  obtain ⟨kW, rW1, rW2, rW3, kW1, nW1, kW2, nW2, kW3, nW3, -⟩ := id hWt
  have hB := h.2.2.2.2.1 p hp
  obtain ⟨⟨pk0, pr1, pr2, pr4, pr6, ppid⟩, ⟨pk1, pn1, pz1⟩, hmb, hts⟩ := id (h.2.2.2.1 p hp)
  refine pm_Mv (L := [.ref (Y.1 0), .ref (Y.1 (pq p 0)), .int (nI (q + 1)), .ref t, .int g]) false (by decide +kernel) (fun h => by cases h) rfl (pm_en_1 rfl (pm_en_1 rfl (pm_en_1 rfl (pm_en_1 rfl (pm_en_1 rfl (pm_en_0 rfl)))))) ?_
  generalize hQ9 : pm_xv (fun S2 => ∃ Y2, yLe (az_a Z 0) Y Y2 ∧ pm_CX (zExit Z p q w byW) S2 Y2 E) = Q9
  refine pm_aload_n dX6_getExit_0 rfl ?_
  refine pm_g_Proc_state (by (try simp only [pm_k_si, pm_k_sj, pm_k_sp, pm_k_sx, pm_k_sz, pm_k_sr, pm_k_sy]); assumption) pm_f_X6_142 dX6_getExit_1 ?_
  refine pm_iconst (v := 2) dX6_getExit_4 (by decide) ?_
  rw [hB 56 0 1 rfl]
  refine pm_icmp_ne (tgt := 9) dX6_getExit_5 (by decide) (fun h5 => ?_) (fun h5 => ?_)
  · skip
    have h0 : az_b Z 1 p ≠ 2 := fun z => h5 (by rw [z]; rfl)
    refine pm_iload dX6_getExit_9 rfl ?_
    refine pm_if_eq (tgt := 43) dX6_getExit_11 (by decide) (fun h11 => ?_) (fun h11 => ?_)
    · skip
      have hK : ¬ (byW = true ∧ w = [1, 1]) := fun z => by rw [hg, if_pos z.1] at h11; exact absurd h11 (by decide)
      refine pm_aload_n dX6_getExit_43 rfl ?_
      refine pm_g_Proc_traps (by (try simp only [pm_k_si, pm_k_sj, pm_k_sp, pm_k_sx, pm_k_sz, pm_k_sr, pm_k_sy]); assumption) pm_f_X6_389 dX6_getExit_44 ?_
      rw [hB 63 0 11 rfl]
      refine pm_if_eq (tgt := 72) dX6_getExit_47 (by decide) (fun h47 => ?_) (fun h47 => ?_)
      · skip
        have h8 : ¬ az_b Z 11 p = 1 := fun z => by rw [z] at h47; exact absurd h47 (by decide)
        refine pm_iload_n dX6_getExit_72 rfl ?_
        refine pm_aload_n dX6_getExit_73 rfl ?_
        refine pm_g_Proc_pid (by (try simp only [pm_k_si, pm_k_sj, pm_k_sp, pm_k_sx, pm_k_sz, pm_k_sr, pm_k_sy]); assumption) pm_f_X6_88 dX6_getExit_74 ?_
        rw [ppid]
        refine pm_icmp_eq (tgt := 88) dX6_getExit_77 (by decide) (fun h77 => ?_) (fun h77 => ?_)
        · skip
          have e7 : q = p := by have := (nI_eq (by omega) (by omega)).mp h77; omega
          have eX : zExit Z p q w byW = zDies Z p w := by rw [zExit, if_neg h0, if_neg hK, if_neg h8, if_neg (fun z => z.2 e7)]
          refine pm_aload_n dX6_getExit_88 rfl ?_
          refine pm_aload_n dX6_getExit_89 rfl ?_
          refine pm_aload_n dX6_getExit_90 rfl ?_
          refine pm_vv (c_X6_die G l bs Z Y E s p t r w _ hx hI hp h0 ht) pm_y_X6_die pm_v_X6_die pm_m_X6_333 (c := 6) (r := (RX6, TX6, 16)) rfl rfl (by (try simp only [pm_k_si, pm_k_sj, pm_k_sp, pm_k_sx, pm_k_sz, pm_k_sr, pm_k_sy]); assumption) dX6_getExit_91 rfl rfl (by decide) (Nat.le_of_ble_eq_true rfl) (fun S91 h91 => ?_)
          have hE : ∃ Y2, yLe (az_a Z 0) Y Y2 ∧ pm_CX (zExit Z p q w byW) S91 Y2 E := ⟨Y, yLe.rf, by rw [eX]; exact h91⟩
          subst hQ9
          refine pm_vret dX6_getExit_94 ?_
          exact hE
        · skip
          have e7 : ¬ q = p := fun z => h77 (by rw [z])
          refine pm_aload_n dX6_getExit_80 rfl ?_
          refine pm_iconst (v := 0) dX6_getExit_81 (by decide) ?_
          refine pm_vi (c_X3_isAtom G l bs t r w 0 _ ht (by omega)) pm_y_X3_isAtom pm_v_X3_isAtom pm_m_X6_398 (c := 3) (r := (RX3, TX3, 2)) rfl rfl ht.1.1 dX6_getExit_82 rfl rfl (by decide) (Nat.le_of_ble_eq_true rfl) (fun x82 S82 h82 => ?_)
          obtain ⟨e82, rfl⟩ := h82
          refine pm_if_ne (tgt := 94) dX6_getExit_85 (by decide) (fun h85 => ?_) (fun h85 => ?_)
          · skip
            have e8 : w = [1, 0] := by
              by_cases z : w[0]? = some 1 ∧ w[1]? = some 0
              · exact hw.atom_iff.mp z
              · rw [if_neg z] at e82; exact absurd e82 h85
            have hE : ∃ Y2, yLe (az_a Z 0) Y Y2 ∧ pm_CX (zExit Z p q w byW) S82 Y2 E := ⟨Y, yLe.rf, by rw [zExit, if_neg h0, if_neg hK, if_neg h8, if_pos ⟨e8, e7⟩]; exact hx⟩
            subst hQ9
            refine pm_vret dX6_getExit_94 ?_
            exact hE
          · skip
            have e8 : ¬ w = [1, 0] := fun z => by rw [if_pos (hw.atom_iff.mpr z), h85] at e82; cases e82
            have eX : zExit Z p q w byW = zDies Z p w := by rw [zExit, if_neg h0, if_neg hK, if_neg h8, if_neg (fun z => e8 z.1)]
            refine pm_aload_n dX6_getExit_88 rfl ?_
            refine pm_aload_n dX6_getExit_89 rfl ?_
            refine pm_aload_n dX6_getExit_90 rfl ?_
            refine pm_vv (c_X6_die G l bs Z Y E s p t r w _ hx hI hp h0 ht) pm_y_X6_die pm_v_X6_die pm_m_X6_333 (c := 6) (r := (RX6, TX6, 16)) rfl rfl (by (try simp only [pm_k_si, pm_k_sj, pm_k_sp, pm_k_sx, pm_k_sz, pm_k_sr, pm_k_sy]); assumption) dX6_getExit_91 rfl rfl (by decide) (Nat.le_of_ble_eq_true rfl) (fun S91 h91 => ?_)
            have hE : ∃ Y2, yLe (az_a Z 0) Y Y2 ∧ pm_CX (zExit Z p q w byW) S91 Y2 E := ⟨Y, yLe.rf, by rw [eX]; exact h91⟩
            subst hQ9
            refine pm_vret dX6_getExit_94 ?_
            exact hE
      · skip
        have h8 : az_b Z 11 p = 1 := by have := hI.b hp 11; have : az_b Z 11 p ≤ 1 := this; have : az_b Z 11 p ≠ 0 := fun z => h47 (by rw [z]; rfl); omega
        have eX : zExit Z p q w byW = zComes Z p (tl_r [-1, 1, 6, -1, 2, nI (q + 1)] w) := by rw [zExit, if_neg h0, if_neg hK, if_pos h8]
        refine pm_aload_n dX6_getExit_50 rfl ?_
        refine pm_g_Mill_letter (by (try simp only [pm_k_si, pm_k_sj, pm_k_sp, pm_k_sx, pm_k_sz, pm_k_sr, pm_k_sy]); assumption) pm_f_X6_42 (by (try simp only [pm_p_si, pm_p_sj, pm_p_sx, pm_p_sz, pm_p_sr, pm_p_sy]); assumption) dX6_getExit_51 ?_
        refine pm_iload_n dX6_getExit_54 rfl ?_
        refine pm_aload_n dX6_getExit_55 rfl ?_
        refine pm_vv (c_X3_setExit G l bs (Y.1 11) (Y.1 12) t r w (nI (q + 1)) _ hLt ht nt nr) pm_y_X3_setExit pm_v_X3_setExit pm_m_X6_401 (c := 3) (r := (RX3, TX3, 2)) rfl rfl hLt.1 dX6_getExit_56 rfl rfl (by decide) (Nat.le_of_ble_eq_true rfl) (fun S56 h56 => ?_)
        have hx3 := hx.own (t := 11) (Or.inl rfl) h56.1
        obtain ⟨h_3, hmk_3⟩ := id hx3
        have hA_3 := h_3.2.2.2.2.2.1
        obtain ⟨⟨hk0_3, hr0_3, hr1_3, hr2_3, hr3_3, hr4_3, hr5_3, hr6_3, hr7_3⟩, ⟨hk1_3, hl1_3⟩, ⟨hk2_3, hl2_3⟩, ⟨hk3_3, hl3_3⟩, ⟨hk4_3, hl4_3⟩, hWt_3, hSh_3, hLt_3, hCs_3⟩ := id h_3.2.2.1
        obtain ⟨kW_3, rW1_3, rW2_3, rW3_3, kW1_3, nW1_3, kW2_3, nW2_3, kW3_3, nW3_3, -⟩ := id hWt_3
        have hB_3 := h_3.2.2.2.2.1 p hp
        obtain ⟨⟨pk0_3, pr1_3, pr2_3, pr4_3, pr6_3, ppid_3⟩, ⟨pk1_3, pn1_3, pz1_3⟩, hmb_3, hts_3⟩ := id (h_3.2.2.2.1 p hp)
        refine pm_aload_n dX6_getExit_59 rfl ?_
        refine pm_aload_n dX6_getExit_60 rfl ?_
        refine pm_aload_n dX6_getExit_61 rfl ?_
        refine pm_g_Mill_letter (by (try simp only [pm_k_si, pm_k_sj, pm_k_sp, pm_k_sx, pm_k_sz, pm_k_sr, pm_k_sy]); assumption) pm_f_X6_42 (by (try simp only [pm_p_si, pm_p_sj, pm_p_sx, pm_p_sz, pm_p_sr, pm_p_sy]); assumption) dX6_getExit_62 ?_
        rw [eX]
        refine pm_vik (kc2 := 0) (ks2 := 0) (c_X6_deliver G l bs Z Y E p (Y.1 11) (Y.1 12) _ S56 hx3 hn hp hsm (hI.2.2.1 p hp).2 h56.2) pm_y_X6_deliver pm_v_X6_deliver pm_m_X6_99 (c := 6) (r := (RX6, TX6, 16)) rfl rfl (by (try simp only [pm_k_si, pm_k_sj, pm_k_sp, pm_k_sx, pm_k_sz, pm_k_sr, pm_k_sy]); assumption) dX6_getExit_65 rfl rfl (by decide) (Nat.le_of_ble_eq_true rfl) (Nat.le_refl _) (Nat.le_refl _) (fun x65 S65 h65 => ?_)
        obtain ⟨Y2, hle, hx4, -⟩ := h65
        have hE : ∃ Y2, yLe (az_a Z 0) Y Y2 ∧ pm_CX (zExit Z p q w byW) S65 Y2 E := ⟨Y2, hle, by rw [eX]; exact hx4⟩
        refine pm_pop dX6_getExit_68 ?_
        refine pm_goto (tgt := 94) dX6_getExit_69 (by decide) ?_
        subst hQ9
        refine pm_vret dX6_getExit_94 ?_
        exact hE
    · skip
      have hY : byW = true := by cases byW; exact absurd hg h11; rfl
      refine pm_aload_n dX6_getExit_14 rfl ?_
      refine pm_iconst (v := 1) dX6_getExit_15 (by decide) ?_
      refine pm_vi (c_X3_isAtom G l bs t r w 1 _ ht (by omega)) pm_y_X3_isAtom pm_v_X3_isAtom pm_m_X6_398 (c := 3) (r := (RX3, TX3, 2)) rfl rfl ht.1.1 dX6_getExit_16 rfl rfl (by decide) (Nat.le_of_ble_eq_true rfl) (fun x16 S16 h16 => ?_)
      obtain ⟨e16, rfl⟩ := h16
      refine pm_if_eq (tgt := 43) dX6_getExit_19 (by decide) (fun h19 => ?_) (fun h19 => ?_)
      · skip
        have hK : ¬ (byW = true ∧ w = [1, 1]) := fun z => by rw [if_pos (hw.atom_iff.mpr z.2), h19] at e16; cases e16
        refine pm_aload_n dX6_getExit_43 rfl ?_
        refine pm_g_Proc_traps (by (try simp only [pm_k_si, pm_k_sj, pm_k_sp, pm_k_sx, pm_k_sz, pm_k_sr, pm_k_sy]); assumption) pm_f_X6_389 dX6_getExit_44 ?_
        rw [hB 63 0 11 rfl]
        refine pm_if_eq (tgt := 72) dX6_getExit_47 (by decide) (fun h47 => ?_) (fun h47 => ?_)
        · skip
          have h8 : ¬ az_b Z 11 p = 1 := fun z => by rw [z] at h47; exact absurd h47 (by decide)
          refine pm_iload_n dX6_getExit_72 rfl ?_
          refine pm_aload_n dX6_getExit_73 rfl ?_
          refine pm_g_Proc_pid (by (try simp only [pm_k_si, pm_k_sj, pm_k_sp, pm_k_sx, pm_k_sz, pm_k_sr, pm_k_sy]); assumption) pm_f_X6_88 dX6_getExit_74 ?_
          rw [ppid]
          refine pm_icmp_eq (tgt := 88) dX6_getExit_77 (by decide) (fun h77 => ?_) (fun h77 => ?_)
          · skip
            have e7 : q = p := by have := (nI_eq (by omega) (by omega)).mp h77; omega
            have eX : zExit Z p q w byW = zDies Z p w := by rw [zExit, if_neg h0, if_neg hK, if_neg h8, if_neg (fun z => z.2 e7)]
            refine pm_aload_n dX6_getExit_88 rfl ?_
            refine pm_aload_n dX6_getExit_89 rfl ?_
            refine pm_aload_n dX6_getExit_90 rfl ?_
            refine pm_vv (c_X6_die G l bs Z Y E s p t r w _ hx hI hp h0 ht) pm_y_X6_die pm_v_X6_die pm_m_X6_333 (c := 6) (r := (RX6, TX6, 16)) rfl rfl (by (try simp only [pm_k_si, pm_k_sj, pm_k_sp, pm_k_sx, pm_k_sz, pm_k_sr, pm_k_sy]); assumption) dX6_getExit_91 rfl rfl (by decide) (Nat.le_of_ble_eq_true rfl) (fun S91 h91 => ?_)
            have hE : ∃ Y2, yLe (az_a Z 0) Y Y2 ∧ pm_CX (zExit Z p q w byW) S91 Y2 E := ⟨Y, yLe.rf, by rw [eX]; exact h91⟩
            subst hQ9
            refine pm_vret dX6_getExit_94 ?_
            exact hE
          · skip
            have e7 : ¬ q = p := fun z => h77 (by rw [z])
            refine pm_aload_n dX6_getExit_80 rfl ?_
            refine pm_iconst (v := 0) dX6_getExit_81 (by decide) ?_
            refine pm_vi (c_X3_isAtom G l bs t r w 0 _ ht (by omega)) pm_y_X3_isAtom pm_v_X3_isAtom pm_m_X6_398 (c := 3) (r := (RX3, TX3, 2)) rfl rfl ht.1.1 dX6_getExit_82 rfl rfl (by decide) (Nat.le_of_ble_eq_true rfl) (fun x82 S82 h82 => ?_)
            obtain ⟨e82, rfl⟩ := h82
            refine pm_if_ne (tgt := 94) dX6_getExit_85 (by decide) (fun h85 => ?_) (fun h85 => ?_)
            · skip
              have e8 : w = [1, 0] := by
                by_cases z : w[0]? = some 1 ∧ w[1]? = some 0
                · exact hw.atom_iff.mp z
                · rw [if_neg z] at e82; exact absurd e82 h85
              have hE : ∃ Y2, yLe (az_a Z 0) Y Y2 ∧ pm_CX (zExit Z p q w byW) S82 Y2 E := ⟨Y, yLe.rf, by rw [zExit, if_neg h0, if_neg hK, if_neg h8, if_pos ⟨e8, e7⟩]; exact hx⟩
              subst hQ9
              refine pm_vret dX6_getExit_94 ?_
              exact hE
            · skip
              have e8 : ¬ w = [1, 0] := fun z => by rw [if_pos (hw.atom_iff.mpr z), h85] at e82; cases e82
              have eX : zExit Z p q w byW = zDies Z p w := by rw [zExit, if_neg h0, if_neg hK, if_neg h8, if_neg (fun z => e8 z.1)]
              refine pm_aload_n dX6_getExit_88 rfl ?_
              refine pm_aload_n dX6_getExit_89 rfl ?_
              refine pm_aload_n dX6_getExit_90 rfl ?_
              refine pm_vv (c_X6_die G l bs Z Y E s p t r w _ hx hI hp h0 ht) pm_y_X6_die pm_v_X6_die pm_m_X6_333 (c := 6) (r := (RX6, TX6, 16)) rfl rfl (by (try simp only [pm_k_si, pm_k_sj, pm_k_sp, pm_k_sx, pm_k_sz, pm_k_sr, pm_k_sy]); assumption) dX6_getExit_91 rfl rfl (by decide) (Nat.le_of_ble_eq_true rfl) (fun S91 h91 => ?_)
              have hE : ∃ Y2, yLe (az_a Z 0) Y Y2 ∧ pm_CX (zExit Z p q w byW) S91 Y2 E := ⟨Y, yLe.rf, by rw [eX]; exact h91⟩
              subst hQ9
              refine pm_vret dX6_getExit_94 ?_
              exact hE
        · skip
          have h8 : az_b Z 11 p = 1 := by have := hI.b hp 11; have : az_b Z 11 p ≤ 1 := this; have : az_b Z 11 p ≠ 0 := fun z => h47 (by rw [z]; rfl); omega
          have eX : zExit Z p q w byW = zComes Z p (tl_r [-1, 1, 6, -1, 2, nI (q + 1)] w) := by rw [zExit, if_neg h0, if_neg hK, if_pos h8]
          refine pm_aload_n dX6_getExit_50 rfl ?_
          refine pm_g_Mill_letter (by (try simp only [pm_k_si, pm_k_sj, pm_k_sp, pm_k_sx, pm_k_sz, pm_k_sr, pm_k_sy]); assumption) pm_f_X6_42 (by (try simp only [pm_p_si, pm_p_sj, pm_p_sx, pm_p_sz, pm_p_sr, pm_p_sy]); assumption) dX6_getExit_51 ?_
          refine pm_iload_n dX6_getExit_54 rfl ?_
          refine pm_aload_n dX6_getExit_55 rfl ?_
          refine pm_vv (c_X3_setExit G l bs (Y.1 11) (Y.1 12) t r w (nI (q + 1)) _ hLt ht nt nr) pm_y_X3_setExit pm_v_X3_setExit pm_m_X6_401 (c := 3) (r := (RX3, TX3, 2)) rfl rfl hLt.1 dX6_getExit_56 rfl rfl (by decide) (Nat.le_of_ble_eq_true rfl) (fun S56 h56 => ?_)
          have hx3 := hx.own (t := 11) (Or.inl rfl) h56.1
          obtain ⟨h_3, hmk_3⟩ := id hx3
          have hA_3 := h_3.2.2.2.2.2.1
          obtain ⟨⟨hk0_3, hr0_3, hr1_3, hr2_3, hr3_3, hr4_3, hr5_3, hr6_3, hr7_3⟩, ⟨hk1_3, hl1_3⟩, ⟨hk2_3, hl2_3⟩, ⟨hk3_3, hl3_3⟩, ⟨hk4_3, hl4_3⟩, hWt_3, hSh_3, hLt_3, hCs_3⟩ := id h_3.2.2.1
          obtain ⟨kW_3, rW1_3, rW2_3, rW3_3, kW1_3, nW1_3, kW2_3, nW2_3, kW3_3, nW3_3, -⟩ := id hWt_3
          have hB_3 := h_3.2.2.2.2.1 p hp
          obtain ⟨⟨pk0_3, pr1_3, pr2_3, pr4_3, pr6_3, ppid_3⟩, ⟨pk1_3, pn1_3, pz1_3⟩, hmb_3, hts_3⟩ := id (h_3.2.2.2.1 p hp)
          refine pm_aload_n dX6_getExit_59 rfl ?_
          refine pm_aload_n dX6_getExit_60 rfl ?_
          refine pm_aload_n dX6_getExit_61 rfl ?_
          refine pm_g_Mill_letter (by (try simp only [pm_k_si, pm_k_sj, pm_k_sp, pm_k_sx, pm_k_sz, pm_k_sr, pm_k_sy]); assumption) pm_f_X6_42 (by (try simp only [pm_p_si, pm_p_sj, pm_p_sx, pm_p_sz, pm_p_sr, pm_p_sy]); assumption) dX6_getExit_62 ?_
          rw [eX]
          refine pm_vik (kc2 := 0) (ks2 := 0) (c_X6_deliver G l bs Z Y E p (Y.1 11) (Y.1 12) _ S56 hx3 hn hp hsm (hI.2.2.1 p hp).2 h56.2) pm_y_X6_deliver pm_v_X6_deliver pm_m_X6_99 (c := 6) (r := (RX6, TX6, 16)) rfl rfl (by (try simp only [pm_k_si, pm_k_sj, pm_k_sp, pm_k_sx, pm_k_sz, pm_k_sr, pm_k_sy]); assumption) dX6_getExit_65 rfl rfl (by decide) (Nat.le_of_ble_eq_true rfl) (Nat.le_refl _) (Nat.le_refl _) (fun x65 S65 h65 => ?_)
          obtain ⟨Y2, hle, hx4, -⟩ := h65
          have hE : ∃ Y2, yLe (az_a Z 0) Y Y2 ∧ pm_CX (zExit Z p q w byW) S65 Y2 E := ⟨Y2, hle, by rw [eX]; exact hx4⟩
          refine pm_pop dX6_getExit_68 ?_
          refine pm_goto (tgt := 94) dX6_getExit_69 (by decide) ?_
          subst hQ9
          refine pm_vret dX6_getExit_94 ?_
          exact hE
      · skip
        have hK : byW = true ∧ w = [1, 1] := ⟨hY, by
          by_cases z : w[0]? = some 1 ∧ w[1]? = some 1
          · exact hw.atom_iff.mp z
          · rw [if_neg z] at e16; exact absurd e16 h19⟩
        refine pm_aload_n dX6_getExit_22 rfl ?_
        refine pm_g_Mill_cause (by (try simp only [pm_k_si, pm_k_sj, pm_k_sp, pm_k_sx, pm_k_sz, pm_k_sr, pm_k_sy]); assumption) pm_f_X6_46 (by (try simp only [pm_p_si, pm_p_sj, pm_p_sx, pm_p_sz, pm_p_sr, pm_p_sy]); assumption) dX6_getExit_23 ?_
        refine pm_iconst (v := 1) dX6_getExit_26 (by decide) ?_
        refine pm_iconst (v := 2) dX6_getExit_27 (by decide) ?_
        refine pm_vv (c_X3_setSingle G l bs (Y.1 13) (Y.1 14) 1 2 _ hCs) pm_y_X3_setSingle pm_v_X3_setSingle pm_m_X6_95 (c := 3) (r := (RX3, TX3, 2)) rfl rfl hCs.1 dX6_getExit_28 rfl rfl (by decide) (Nat.le_of_ble_eq_true rfl) (fun S28 h28 => ?_)
        have hx2 := hx.own (t := 13) (Or.inr rfl) h28.1
        obtain ⟨h_2, hmk_2⟩ := id hx2
        have hA_2 := h_2.2.2.2.2.2.1
        obtain ⟨⟨hk0_2, hr0_2, hr1_2, hr2_2, hr3_2, hr4_2, hr5_2, hr6_2, hr7_2⟩, ⟨hk1_2, hl1_2⟩, ⟨hk2_2, hl2_2⟩, ⟨hk3_2, hl3_2⟩, ⟨hk4_2, hl4_2⟩, hWt_2, hSh_2, hLt_2, hCs_2⟩ := id h_2.2.2.1
        obtain ⟨kW_2, rW1_2, rW2_2, rW3_2, kW1_2, nW1_2, kW2_2, nW2_2, kW3_2, nW3_2, -⟩ := id hWt_2
        have hB_2 := h_2.2.2.2.2.1 p hp
        obtain ⟨⟨pk0_2, pr1_2, pr2_2, pr4_2, pr6_2, ppid_2⟩, ⟨pk1_2, pn1_2, pz1_2⟩, hmb_2, hts_2⟩ := id (h_2.2.2.2.1 p hp)
        refine pm_aload_n dX6_getExit_31 rfl ?_
        refine pm_aload_n dX6_getExit_32 rfl ?_
        refine pm_aload_n dX6_getExit_33 rfl ?_
        refine pm_g_Mill_cause (by (try simp only [pm_k_si, pm_k_sj, pm_k_sp, pm_k_sx, pm_k_sz, pm_k_sr, pm_k_sy]); assumption) pm_f_X6_46 (by (try simp only [pm_p_si, pm_p_sj, pm_p_sx, pm_p_sz, pm_p_sr, pm_p_sy]); assumption) dX6_getExit_34 ?_
        refine pm_vv (c_X6_die G l bs Z Y E s p (Y.1 13) (Y.1 14) [1, 2] S28 hx2 hI hp h0 h28.2) pm_y_X6_die pm_v_X6_die pm_m_X6_333 (c := 6) (r := (RX6, TX6, 16)) rfl rfl (by (try simp only [pm_k_si, pm_k_sj, pm_k_sp, pm_k_sx, pm_k_sz, pm_k_sr, pm_k_sy]); assumption) dX6_getExit_37 rfl rfl (by decide) (Nat.le_of_ble_eq_true rfl) (fun S37 h37 => ?_)
        have hE : ∃ Y2, yLe (az_a Z 0) Y Y2 ∧ pm_CX (zExit Z p q w byW) S37 Y2 E := ⟨Y, yLe.rf, by rw [zExit, if_neg h0, if_pos hK]; exact h37⟩
        refine pm_goto (tgt := 94) dX6_getExit_40 (by decide) ?_
        subst hQ9
        refine pm_vret dX6_getExit_94 ?_
        exact hE
  · skip
    have h0 : az_b Z 1 p = 2 := (pm_e2 (hsm p hp 1 (by decide))).mp h5
    subst hQ9
    refine pm_vret dX6_getExit_8 ?_
    exact ⟨Y, yLe.rf, by rw [zExit, if_pos h0]; exact hx⟩

set_option maxHeartbeats 4000000 in
set_option maxRecDepth 100000 in
theorem c_X6_exit (G : pm_G) (l : Launch) (bs : Nat) (Z : az) (Y : pm_Y) (E : pm_S) (s : Nat) (p : Nat) (q : Option Nat) (t rt : Nat) (w : List Int32) (S : pm_S) (hx : pm_CX Z S Y E) (hI : zI s Z) (hp : p < az_a Z 0) (hqn : ∀ p, q = some p → p < az_a Z 0) (ht : pm_tm S t rt w) (hw : tW (az_a Z 0) w) (nt : t ≠ Y.1 11) (nr : rt ≠ Y.1 12) : pm_M G l bs yX6_exit cX6_exit 4 (some .int) 5 (zU (zExw Z p q w) - zU Z) (49 * (zU (zExw Z p q w) - zU Z)) [.ref (Y.1 0), .ref (Y.1 (pq p 0)), va_rf (q.map (fun p => Y.1 (pq p 0))), .ref t] S (pm_qi (fun x S2 => x = (if q = none then 4 else -1) ∧ ∃ Y2, yLe (az_a Z 0) Y Y2 ∧ pm_CX (zExw Z p q w) S2 Y2 E)) := by
  have hn := hI.1
  have hsm := hI.sm
  obtain ⟨h, hmk⟩ := id hx
  have hA := h.2.2.2.2.2.1
  obtain ⟨⟨hk0, hr0, hr1, hr2, hr3, hr4, hr5, hr6, hr7⟩, ⟨hk1, hl1⟩, ⟨hk2, hl2⟩, ⟨hk3, hl3⟩, ⟨hk4, hl4⟩, hWt, hSh, hLt, hCs⟩ := id h.2.2.1
  obtain ⟨kW, rW1, rW2, rW3, kW1, nW1, kW2, nW2, kW3, nW3, -⟩ := id hWt
  have hB := h.2.2.2.2.1 p hp
  obtain ⟨⟨pk0, pr1, pr2, pr4, pr6, ppid⟩, ⟨pk1, pn1, pz1⟩, hmb, hts⟩ := id (h.2.2.2.1 p hp)
  refine pm_Mi (L := [.ref (Y.1 0), .ref (Y.1 (pq p 0)), va_rf (q.map (fun p => Y.1 (pq p 0))), .ref t]) (by decide +kernel) rfl (pm_en_1 rfl (pm_en_1 rfl (pm_en_1 (pm_rf_cat _) (pm_en_1 rfl (pm_en_0 rfl))))) ?_
  generalize hQ9 : pm_xi (fun x S2 => x = (if q = none then 4 else -1) ∧ ∃ Y2, yLe (az_a Z 0) Y Y2 ∧ pm_CX (zExw Z p q w) S2 Y2 E) = Q9
  refine pm_aload_n dX6_exit_0 rfl ?_
  cases hq : q with
  | some r =>
    refine pm_ifnonnull_r (tgt := 6) dX6_exit_1 (by decide) ?_
    have hr := hqn r hq
    have hBr := h.2.2.2.2.1 r hr
    obtain ⟨⟨pk0r, pr1r, pr2r, pr4r, pr6r, ppidr⟩, ⟨pk1r, pn1r, pz1r⟩, hmbr, htsr⟩ := id (h.2.2.2.1 r hr)
    refine pm_aload_n dX6_exit_6 rfl ?_
    refine pm_aload_n dX6_exit_7 rfl ?_
    refine pm_aload_n dX6_exit_8 rfl ?_
    refine pm_g_Proc_pid (by (try simp only [pm_k_si, pm_k_sj, pm_k_sp, pm_k_sx, pm_k_sz, pm_k_sr, pm_k_sy]); assumption) pm_f_X6_88 dX6_exit_9 ?_
    refine pm_aload_n dX6_exit_12 rfl ?_
    refine pm_iconst (v := 1) dX6_exit_13 (by decide) ?_
    rw [ppid, show zExw Z p (some r) w = zExit Z r p w true from rfl]
    refine pm_vvk (kc2 := 0) (ks2 := 0) (c_X6_getExit G l bs Z Y E s r p t rt w 1 true S hx hI hr hp ht hw nt nr rfl) pm_y_X6_getExit pm_v_X6_getExit pm_m_X6_367 (c := 6) (r := (RX6, TX6, 16)) rfl rfl (by (try simp only [pm_k_si, pm_k_sj, pm_k_sp, pm_k_sx, pm_k_sz, pm_k_sr, pm_k_sy]); assumption) dX6_exit_14 rfl rfl (by decide) (Nat.le_of_ble_eq_true rfl) (Nat.le_refl _) (Nat.le_refl _) (fun S14 h14 => ?_)
    obtain ⟨Y2, hle, hx2⟩ := h14
    refine pm_iconst (v := (-1)) dX6_exit_17 (by decide) ?_
    subst hQ9
    refine pm_iret dX6_exit_18 ?_
    exact ⟨by rw [hq, if_neg (by simp)], Y2, hle, by rw [hq]; exact hx2⟩
  | none =>
    refine pm_ifnonnull_n dX6_exit_1 ?_
    refine pm_iconst (v := 4) dX6_exit_4 (by decide) ?_
    subst hQ9
    refine pm_iret dX6_exit_5 ?_
    exact ⟨by rw [if_pos hq], Y, yLe.rf, by rw [hq]; exact hx⟩

set_option maxHeartbeats 4000000 in
set_option maxRecDepth 100000 in
theorem c_X6_link (G : pm_G) (l : Launch) (bs : Nat) (Z : az) (Y : pm_Y) (E : pm_S) (s : Nat) (p : Nat) (q : Option Nat) (S : pm_S) (hx : pm_CX Z S Y E) (hI : zI s Z) (hp : p < az_a Z 0) (hqn : ∀ p, q = some p → p < az_a Z 0) : pm_M G l bs yX6_link cX6_link 3 (some .int) 5 (zU (zLnk Z p q) - zU Z) (49 * (zU (zLnk Z p q) - zU Z)) [.ref (Y.1 0), .ref (Y.1 (pq p 0)), va_rf (q.map (fun p => Y.1 (pq p 0)))] S (pm_qi (fun x S2 => x = (if q = none then 4 else -1) ∧ ∃ Y2, yLe (az_a Z 0) Y Y2 ∧ pm_CX (zLnk Z p q) S2 Y2 E)) := by
  have hn := hI.1
  have hsm := hI.sm
  obtain ⟨h, hmk⟩ := id hx
  have hA := h.2.2.2.2.2.1
  obtain ⟨⟨hk0, hr0, hr1, hr2, hr3, hr4, hr5, hr6, hr7⟩, ⟨hk1, hl1⟩, ⟨hk2, hl2⟩, ⟨hk3, hl3⟩, ⟨hk4, hl4⟩, hWt, hSh, hLt, hCs⟩ := id h.2.2.1
  obtain ⟨kW, rW1, rW2, rW3, kW1, nW1, kW2, nW2, kW3, nW3, -⟩ := id hWt
  have hB := h.2.2.2.2.1 p hp
  obtain ⟨⟨pk0, pr1, pr2, pr4, pr6, ppid⟩, ⟨pk1, pn1, pz1⟩, hmb, hts⟩ := id (h.2.2.2.1 p hp)
  refine pm_Mi (L := [.ref (Y.1 0), .ref (Y.1 (pq p 0)), va_rf (q.map (fun p => Y.1 (pq p 0)))]) (by decide +kernel) rfl (pm_en_1 rfl (pm_en_1 rfl (pm_en_1 (pm_rf_cat _) (pm_en_0 rfl)))) ?_
  generalize hQ9 : pm_xi (fun x S2 => x = (if q = none then 4 else -1) ∧ ∃ Y2, yLe (az_a Z 0) Y Y2 ∧ pm_CX (zLnk Z p q) S2 Y2 E) = Q9
  refine pm_aload_n dX6_link_0 rfl ?_
  cases hq : q with
  | some r =>
    refine pm_ifnonnull_r (tgt := 6) dX6_link_1 (by decide) ?_
    have hr := hqn r hq
    have hBr := h.2.2.2.2.1 r hr
    obtain ⟨⟨pk0r, pr1r, pr2r, pr4r, pr6r, ppidr⟩, ⟨pk1r, pn1r, pz1r⟩, hmbr, htsr⟩ := id (h.2.2.2.1 r hr)
    refine pm_aload_n dX6_link_6 rfl ?_
    refine pm_g_Proc_state (by (try simp only [pm_k_si, pm_k_sj, pm_k_sp, pm_k_sx, pm_k_sz, pm_k_sr, pm_k_sy]); assumption) pm_f_X6_142 dX6_link_7 ?_
    refine pm_iconst (v := 2) dX6_link_10 (by decide) ?_
    rw [hBr 56 0 1 rfl]
    refine pm_icmp_ne (tgt := 40) dX6_link_11 (by decide) (fun h11 => ?_) (fun h11 => ?_)
    · skip
      have h9 : ¬ az_b Z 1 r = 2 := fun z => h11 (by rw [z]; rfl)
      refine pm_aload_n dX6_link_40 rfl ?_
      refine pm_aload_n dX6_link_41 rfl ?_
      refine pm_acmp_eq (tgt := 50) dX6_link_42 (by decide) (fun h42 => ?_) (fun h42 => ?_)
      · skip
        have h8 : r = p := (h.pp hr hp (by decide) (by decide) h42).1
        have hE : ∃ Y2, yLe (az_a Z 0) Y Y2 ∧ pm_CX (zLnk Z p (some r)) S Y2 E := ⟨Y, yLe.rf, by show pm_CX (if _ then _ else if _ then _ else _) _ _ _; rw [if_neg h9, if_pos h8]; exact hx⟩
        refine pm_iconst (v := (-1)) dX6_link_50 (by decide) ?_
        subst hQ9
        refine pm_iret dX6_link_51 ?_
        exact ⟨by rw [hq, if_neg (by simp)], by rw [hq]; exact hE⟩
      · skip
        have h8 : ¬ r = p := fun z => h42 (by rw [z])
        refine pm_aload_n dX6_link_45 rfl ?_
        refine pm_aload_n dX6_link_46 rfl ?_
        refine pm_vv (c_X1_linkWith G l bs (Y.1 (pq p 0)) (Y.1 (pq r 0)) (p + 1) (r + 1) S pk0 pk0r ppid ppidr) pm_y_X1_linkWith pm_v_X1_linkWith pm_m_X6_345 (c := 1) (r := (RX1, TX1, 16)) rfl rfl (by (try simp only [pm_k_si, pm_k_sj, pm_k_sp, pm_k_sx, pm_k_sz, pm_k_sr, pm_k_sy]); assumption) dX6_link_47 rfl rfl (by decide) (Nat.le_of_ble_eq_true rfl) (fun S47 h47 => ?_)
        have hE : ∃ Y2, yLe (az_a Z 0) Y Y2 ∧ pm_CX (zLnk Z p (some r)) S47 Y2 E := ⟨Y, yLe.rf, by show pm_CX (if _ then _ else if _ then _ else _) _ _ _; rw [if_neg h9, if_neg h8, h47]; exact hx.lift ((h.f1 hn hp hr).f1 (p := r) (q := p) hn hr hp) rfl (fun _ => rfl)⟩
        refine pm_iconst (v := (-1)) dX6_link_50 (by decide) ?_
        subst hQ9
        refine pm_iret dX6_link_51 ?_
        exact ⟨by rw [hq, if_neg (by simp)], by rw [hq]; exact hE⟩
    · skip
      have h9 : az_b Z 1 r = 2 := (pm_e2 (hsm r hr 1 (by decide))).mp h11
      have eX : zLnk Z p (some r) = zExit Z p r [1, 3] false := by show (if _ then _ else _) = _; rw [if_pos h9]
      refine pm_aload_n dX6_link_14 rfl ?_
      refine pm_g_Mill_cause (by (try simp only [pm_k_si, pm_k_sj, pm_k_sp, pm_k_sx, pm_k_sz, pm_k_sr, pm_k_sy]); assumption) pm_f_X6_46 (by (try simp only [pm_p_si, pm_p_sj, pm_p_sx, pm_p_sz, pm_p_sr, pm_p_sy]); assumption) dX6_link_15 ?_
      refine pm_iconst (v := 1) dX6_link_18 (by decide) ?_
      refine pm_iconst (v := 3) dX6_link_19 (by decide) ?_
      refine pm_vv (c_X3_setSingle G l bs (Y.1 13) (Y.1 14) 1 3 _ hCs) pm_y_X3_setSingle pm_v_X3_setSingle pm_m_X6_95 (c := 3) (r := (RX3, TX3, 2)) rfl rfl hCs.1 dX6_link_20 rfl rfl (by decide) (Nat.le_of_ble_eq_true rfl) (fun S20 h20 => ?_)
      have hx2 := hx.own (t := 13) (Or.inr rfl) h20.1
      obtain ⟨h_2, hmk_2⟩ := id hx2
      have hA_2 := h_2.2.2.2.2.2.1
      obtain ⟨⟨hk0_2, hr0_2, hr1_2, hr2_2, hr3_2, hr4_2, hr5_2, hr6_2, hr7_2⟩, ⟨hk1_2, hl1_2⟩, ⟨hk2_2, hl2_2⟩, ⟨hk3_2, hl3_2⟩, ⟨hk4_2, hl4_2⟩, hWt_2, hSh_2, hLt_2, hCs_2⟩ := id h_2.2.2.1
      obtain ⟨kW_2, rW1_2, rW2_2, rW3_2, kW1_2, nW1_2, kW2_2, nW2_2, kW3_2, nW3_2, -⟩ := id hWt_2
      have hB_2 := h_2.2.2.2.2.1 p hp
      obtain ⟨⟨pk0_2, pr1_2, pr2_2, pr4_2, pr6_2, ppid_2⟩, ⟨pk1_2, pn1_2, pz1_2⟩, hmb_2, hts_2⟩ := id (h_2.2.2.2.1 p hp)
      have hBr_2 := h_2.2.2.2.2.1 r hr
      obtain ⟨⟨pk0r_2, pr1r_2, pr2r_2, pr4r_2, pr6r_2, ppidr_2⟩, ⟨pk1r_2, pn1r_2, pz1r_2⟩, hmbr_2, htsr_2⟩ := id (h_2.2.2.2.1 r hr)
      refine pm_aload_n dX6_link_23 rfl ?_
      refine pm_aload_n dX6_link_24 rfl ?_
      refine pm_aload_n dX6_link_25 rfl ?_
      refine pm_g_Proc_pid (by (try simp only [pm_k_si, pm_k_sj, pm_k_sp, pm_k_sx, pm_k_sz, pm_k_sr, pm_k_sy]); assumption) pm_f_X6_88 dX6_link_26 ?_
      refine pm_aload_n dX6_link_29 rfl ?_
      refine pm_g_Mill_cause (by (try simp only [pm_k_si, pm_k_sj, pm_k_sp, pm_k_sx, pm_k_sz, pm_k_sr, pm_k_sy]); assumption) pm_f_X6_46 (by (try simp only [pm_p_si, pm_p_sj, pm_p_sx, pm_p_sz, pm_p_sr, pm_p_sy]); assumption) dX6_link_30 ?_
      refine pm_iconst (v := 0) dX6_link_33 (by decide) ?_
      rw [ppidr_2, eX]
      refine pm_vvk (kc2 := 0) (ks2 := 0) (c_X6_getExit G l bs Z Y E s p r (Y.1 13) (Y.1 14) [1, 3] 0 false S20 hx2 hI hp hr h20.2 (tW.atom (by decide) (by decide)) (fun z => by have := h.cc (by decide) (by decide) z; omega) (fun z => by have := h.cc (by decide) (by decide) z; omega) rfl) pm_y_X6_getExit pm_v_X6_getExit pm_m_X6_367 (c := 6) (r := (RX6, TX6, 16)) rfl rfl (by (try simp only [pm_k_si, pm_k_sj, pm_k_sp, pm_k_sx, pm_k_sz, pm_k_sr, pm_k_sy]); assumption) dX6_link_34 rfl rfl (by decide) (Nat.le_of_ble_eq_true rfl) (Nat.le_refl _) (Nat.le_refl _) (fun S34 h34 => ?_)
      obtain ⟨Y2, hle, hx3⟩ := h34
      have hE : ∃ Y2, yLe (az_a Z 0) Y Y2 ∧ pm_CX (zLnk Z p (some r)) S34 Y2 E := ⟨Y2, hle, by rw [eX]; exact hx3⟩
      refine pm_goto (tgt := 50) dX6_link_37 (by decide) ?_
      refine pm_iconst (v := (-1)) dX6_link_50 (by decide) ?_
      subst hQ9
      refine pm_iret dX6_link_51 ?_
      exact ⟨by rw [hq, if_neg (by simp)], by rw [hq]; exact hE⟩
  | none =>
    refine pm_ifnonnull_n dX6_link_1 ?_
    refine pm_iconst (v := 4) dX6_link_4 (by decide) ?_
    subst hQ9
    refine pm_iret dX6_link_5 ?_
    exact ⟨by rw [if_pos hq], Y, yLe.rf, by rw [hq]; exact hx⟩

set_option maxHeartbeats 4000000 in
set_option maxRecDepth 100000 in
theorem c_X6_watch (G : pm_G) (l : Launch) (bs : Nat) (Z : az) (Y : pm_Y) (E : pm_S) (s : Nat) (p j : Nat) (q : Option Nat) (S : pm_S) (hx : pm_CX Z S Y E) (hI : zI s Z) (hp : p < az_a Z 0) (hqn : ∀ p, q = some p → p < az_a Z 0) (hj : j < 8) : pm_M G l bs yX6_watch cX6_watch 5 (some .int) 4 (zU (zWt Z p j q) - zU Z) (49 * (zU (zWt Z p j q) - zU Z)) [.ref (Y.1 0), .ref (Y.1 (pq p 0)), .ref (Y.1 (pq p (10 + j))), va_rf (q.map (fun p => Y.1 (pq p 0)))] S (pm_qi (fun x S2 => x = (if q = none then 4 else if 200 ≤ (az_w Z).length then 5 else -1) ∧ ∃ Y2, yLe (az_a Z 0) Y Y2 ∧ pm_CX (zWt Z p j q) S2 Y2 E)) := by
  have hn := hI.1
  have hsm := hI.sm
  have hwl := hI.2.2.2.2.2.2.2.2.1.1
  obtain ⟨h, hmk⟩ := id hx
  have hA := h.2.2.2.2.2.1
  obtain ⟨⟨hk0, hr0, hr1, hr2, hr3, hr4, hr5, hr6, hr7⟩, ⟨hk1, hl1⟩, ⟨hk2, hl2⟩, ⟨hk3, hl3⟩, ⟨hk4, hl4⟩, hWt, hSh, hLt, hCs⟩ := id h.2.2.1
  obtain ⟨kW, rW1, rW2, rW3, kW1, nW1, kW2, nW2, kW3, nW3, -⟩ := id hWt
  have hB := h.2.2.2.2.1 p hp
  obtain ⟨⟨pk0, pr1, pr2, pr4, pr6, ppid⟩, ⟨pk1, pn1, pz1⟩, hmb, hts⟩ := id (h.2.2.2.1 p hp)
  refine pm_Mi (L := [.ref (Y.1 0), .ref (Y.1 (pq p 0)), .ref (Y.1 (pq p (10 + j))), va_rf (q.map (fun p => Y.1 (pq p 0))), pm_u]) (by decide +kernel) rfl (pm_en_1 rfl (pm_en_1 rfl (pm_en_1 rfl (pm_en_1 (pm_rf_cat _) (pm_en_0 rfl))))) ?_
  generalize hQ9 : pm_xi (fun x S2 => x = (if q = none then 4 else if 200 ≤ (az_w Z).length then 5 else -1) ∧ ∃ Y2, yLe (az_a Z 0) Y Y2 ∧ pm_CX (zWt Z p j q) S2 Y2 E) = Q9
  refine pm_aload_n dX6_watch_0 rfl ?_
  cases hq : q with
  | some r =>
    refine pm_ifnonnull_r (tgt := 6) dX6_watch_1 (by decide) ?_
    have hr := hqn r hq
    have hBr := h.2.2.2.2.1 r hr
    obtain ⟨⟨pk0r, pr1r, pr2r, pr4r, pr6r, ppidr⟩, ⟨pk1r, pn1r, pz1r⟩, hmbr, htsr⟩ := id (h.2.2.2.1 r hr)
    refine pm_aload_n dX6_watch_6 rfl ?_
    refine pm_g_Mill_watches (by (try simp only [pm_k_si, pm_k_sj, pm_k_sp, pm_k_sx, pm_k_sz, pm_k_sr, pm_k_sy]); assumption) pm_f_X6_28 (by (try simp only [pm_p_si, pm_p_sj, pm_p_sx, pm_p_sz, pm_p_sr, pm_p_sy]); assumption) dX6_watch_7 ?_
    refine pm_vi (c_X5_isFull G l bs (Y.1 5) (Y.1 6) (Y.1 7) (Y.1 8) (az_w Z).length S hWt h.2.2.2.2.2.2.2.2.2.2.1.1 (by omega)) pm_y_X5_isFull pm_v_X5_isFull pm_m_X6_374 (c := 5) (r := (RX5, TX5, 5)) rfl rfl kW dX6_watch_10 rfl rfl (by decide) (Nat.le_of_ble_eq_true rfl) (fun x10 S10 h10 => ?_)
    obtain ⟨e10, rfl⟩ := h10
    refine pm_if_eq (tgt := 18) dX6_watch_13 (by decide) (fun h13 => ?_) (fun h13 => ?_)
    · skip
      have h9 : ¬ 200 ≤ (az_w Z).length := fun z => by rw [if_neg (by omega), h13] at e10; cases e10
      refine pm_aload_n dX6_watch_18 rfl ?_
      refine pm_g_Mill_watches (by (try simp only [pm_k_si, pm_k_sj, pm_k_sp, pm_k_sx, pm_k_sz, pm_k_sr, pm_k_sy]); assumption) pm_f_X6_28 (by (try simp only [pm_p_si, pm_p_sj, pm_p_sx, pm_p_sz, pm_p_sr, pm_p_sy]); assumption) dX6_watch_19 ?_
      refine pm_vi (c_X5_nextNumber G l bs (Y.1 5) (az_a Z 8) S10 kW (hA 254 5 8 rfl)) pm_y_X5_nextNumber pm_v_X5_nextNumber pm_m_X6_378 (c := 5) (r := (RX5, TX5, 5)) rfl rfl kW dX6_watch_22 rfl rfl (by decide) (Nat.le_of_ble_eq_true rfl) (fun x22 S22 h22 => ?_)
      obtain ⟨rfl, e22⟩ := h22
      have hx1 : pm_CX (zs_a Z 8 (az_a Z 8 + 1)) S22 Y E := by rw [e22]; exact hx.lift (h.a (f := 254) (i := 8) (c := 5) rfl (by decide)) rfl (fun _ => rfl)
      refine pm_istore dX6_watch_25 (by decide) ?_
      dsimp only [List.set]
      refine pm_aload_n dX6_watch_27 rfl ?_
      refine pm_iconst (v := 0) dX6_watch_28 (by decide) ?_
      refine pm_iload dX6_watch_29 rfl ?_
      refine pm_vv (c_X3_setSingle G l bs (Y.1 (pq p (10 + j))) (Y.1 (pq p (20 + j))) 0 (nI (az_a Z 8 + 1)) S22 (hx1.tm hp hj).1) pm_y_X3_setSingle pm_v_X3_setSingle pm_m_X6_95 (c := 3) (r := (RX3, TX3, 2)) rfl rfl (hx1.tm hp hj).1.1 dX6_watch_31 rfl rfl (by decide) (Nat.le_of_ble_eq_true rfl) (fun S31 h31 => ?_)
      have hx2 := hx1.rg hn hp hj h31.1 h31.2
      have hI2 : zI s (zs_t (zs_a Z 8 (az_a Z 8 + 1)) 0 p j [0, nI (az_a Z 8 + 1)]) := (hI.sa (Or.inr rfl)).t0 (tW.num _)
      obtain ⟨h_2, hmk_2⟩ := id hx2
      have hA_2 := h_2.2.2.2.2.2.1
      obtain ⟨⟨hk0_2, hr0_2, hr1_2, hr2_2, hr3_2, hr4_2, hr5_2, hr6_2, hr7_2⟩, ⟨hk1_2, hl1_2⟩, ⟨hk2_2, hl2_2⟩, ⟨hk3_2, hl3_2⟩, ⟨hk4_2, hl4_2⟩, hWt_2, hSh_2, hLt_2, hCs_2⟩ := id h_2.2.2.1
      obtain ⟨kW_2, rW1_2, rW2_2, rW3_2, kW1_2, nW1_2, kW2_2, nW2_2, kW3_2, nW3_2, -⟩ := id hWt_2
      have hB_2 := h_2.2.2.2.2.1 p hp
      obtain ⟨⟨pk0_2, pr1_2, pr2_2, pr4_2, pr6_2, ppid_2⟩, ⟨pk1_2, pn1_2, pz1_2⟩, hmb_2, hts_2⟩ := id (h_2.2.2.2.1 p hp)
      have hBr_2 := h_2.2.2.2.2.1 r hr
      obtain ⟨⟨pk0r_2, pr1r_2, pr2r_2, pr4r_2, pr6r_2, ppidr_2⟩, ⟨pk1r_2, pn1r_2, pz1r_2⟩, hmbr_2, htsr_2⟩ := id (h_2.2.2.2.1 r hr)
      have eB : az_b (zs_t (zs_a Z 8 (az_a Z 8 + 1)) 0 p j [0, nI (az_a Z 8 + 1)]) 1 r = az_b Z 1 r := rfl
      refine pm_aload_n dX6_watch_34 rfl ?_
      refine pm_g_Proc_state (by (try simp only [pm_k_si, pm_k_sj, pm_k_sp, pm_k_sx, pm_k_sz, pm_k_sr, pm_k_sy]); assumption) pm_f_X6_142 dX6_watch_35 ?_
      refine pm_iconst (v := 2) dX6_watch_38 (by decide) ?_
      rw [hBr_2 56 0 1 rfl, eB]
      refine pm_icmp_ne (tgt := 81) dX6_watch_39 (by decide) (fun h39 => ?_) (fun h39 => ?_)
      · skip
        have h8 : ¬ az_b Z 1 r = 2 := fun z => h39 (by rw [z]; rfl)
        have eX : zWt Z p j (some r) = zs_w (zs_t (zs_a Z 8 (az_a Z 8 + 1)) 0 p j [0, nI (az_a Z 8 + 1)]) (az_w Z ++ [(az_a Z 8 + 1, p, r)]) := by show (if _ then _ else if _ then _ else _) = _; rw [if_neg h9, if_neg h8]
        refine pm_aload_n dX6_watch_81 rfl ?_
        refine pm_g_Mill_watches (by (try simp only [pm_k_si, pm_k_sj, pm_k_sp, pm_k_sx, pm_k_sz, pm_k_sr, pm_k_sy]); assumption) pm_f_X6_28 (by (try simp only [pm_p_si, pm_p_sj, pm_p_sx, pm_p_sz, pm_p_sr, pm_p_sy]); assumption) dX6_watch_82 ?_
        refine pm_iload dX6_watch_85 rfl ?_
        refine pm_aload_n dX6_watch_87 rfl ?_
        refine pm_g_Proc_pid (by (try simp only [pm_k_si, pm_k_sj, pm_k_sp, pm_k_sx, pm_k_sz, pm_k_sr, pm_k_sy]); assumption) pm_f_X6_88 dX6_watch_88 ?_
        refine pm_aload_n dX6_watch_91 rfl ?_
        refine pm_g_Proc_pid (by (try simp only [pm_k_si, pm_k_sj, pm_k_sp, pm_k_sx, pm_k_sz, pm_k_sr, pm_k_sy]); assumption) pm_f_X6_88 dX6_watch_92 ?_
        rw [ppid_2, ppidr_2]
        refine pm_vv (c_X5_add G l bs (Y.1 5) (Y.1 6) (Y.1 7) (Y.1 8) ((az_w Z).map (fun t => (nI t.1, nI (t.2.1 + 1), nI (t.2.2 + 1)))) (nI (az_a Z 8 + 1)) (nI (p + 1)) (nI (r + 1)) S31 hWt_2 (h_2.2.2.2.2.2.2.2.2.2.2.1.1.trans (by rw [List.length_map]; rfl)) (by rw [List.length_map]; omega) h_2.2.2.2.2.2.2.2.2.2.2.1.2) pm_y_X5_add pm_v_X5_add pm_m_X6_385 (c := 5) (r := (RX5, TX5, 5)) rfl rfl hWt_2.1 dX6_watch_95 rfl rfl (by decide) (Nat.le_of_ble_eq_true rfl) (fun S95 h95 => ?_)
        rw [List.length_map] at h95
        have hE : ∃ Y2, yLe (az_a Z 0) Y Y2 ∧ pm_CX (zWt Z p j (some r)) S95 Y2 E := ⟨Y, yLe.rf, by
          rw [eX]
          exact hx2.lift (h_2.wt (V := az_w Z ++ [(az_a Z 8 + 1, p, r)]) hn h95.1 (by rw [List.length_append]; exact h95.2.1) (by rw [List.map_append]; exact h95.2.2)) rfl (fun _ => rfl)⟩
        refine pm_iconst (v := (-1)) dX6_watch_98 (by decide) ?_
        subst hQ9
        refine pm_iret dX6_watch_99 ?_
        exact ⟨by rw [hq, if_neg (by simp), if_neg h9], by rw [hq]; exact hE⟩
      · skip
        have h8 : az_b Z 1 r = 2 := (pm_e2 (hsm r hr 1 (by decide))).mp h39
        have eX : zWt Z p j (some r) = zComes (zs_t (zs_a Z 8 (az_a Z 8 + 1)) 0 p j [0, nI (az_a Z 8 + 1)]) p (tl_r [-1, 1, 7, -1, 0, nI (az_a Z 8 + 1), -1, 2, nI (r + 1)] [1, 3]) := by show (if _ then _ else if _ then _ else _) = _; rw [if_neg h9, if_pos h8]; rfl
        refine pm_aload_n dX6_watch_42 rfl ?_
        refine pm_g_Mill_cause (by (try simp only [pm_k_si, pm_k_sj, pm_k_sp, pm_k_sx, pm_k_sz, pm_k_sr, pm_k_sy]); assumption) pm_f_X6_46 (by (try simp only [pm_p_si, pm_p_sj, pm_p_sx, pm_p_sz, pm_p_sr, pm_p_sy]); assumption) dX6_watch_43 ?_
        refine pm_iconst (v := 1) dX6_watch_46 (by decide) ?_
        refine pm_iconst (v := 3) dX6_watch_47 (by decide) ?_
        refine pm_vv (c_X3_setSingle G l bs (Y.1 13) (Y.1 14) 1 3 _ hCs_2) pm_y_X3_setSingle pm_v_X3_setSingle pm_m_X6_95 (c := 3) (r := (RX3, TX3, 2)) rfl rfl hCs_2.1 dX6_watch_48 rfl rfl (by decide) (Nat.le_of_ble_eq_true rfl) (fun S48 h48 => ?_)
        have hx3 := hx2.own (t := 13) (Or.inr rfl) h48.1
        obtain ⟨h_3, hmk_3⟩ := id hx3
        have hA_3 := h_3.2.2.2.2.2.1
        obtain ⟨⟨hk0_3, hr0_3, hr1_3, hr2_3, hr3_3, hr4_3, hr5_3, hr6_3, hr7_3⟩, ⟨hk1_3, hl1_3⟩, ⟨hk2_3, hl2_3⟩, ⟨hk3_3, hl3_3⟩, ⟨hk4_3, hl4_3⟩, hWt_3, hSh_3, hLt_3, hCs_3⟩ := id h_3.2.2.1
        obtain ⟨kW_3, rW1_3, rW2_3, rW3_3, kW1_3, nW1_3, kW2_3, nW2_3, kW3_3, nW3_3, -⟩ := id hWt_3
        have hB_3 := h_3.2.2.2.2.1 p hp
        obtain ⟨⟨pk0_3, pr1_3, pr2_3, pr4_3, pr6_3, ppid_3⟩, ⟨pk1_3, pn1_3, pz1_3⟩, hmb_3, hts_3⟩ := id (h_3.2.2.2.1 p hp)
        have hBr_3 := h_3.2.2.2.2.1 r hr
        obtain ⟨⟨pk0r_3, pr1r_3, pr2r_3, pr4r_3, pr6r_3, ppidr_3⟩, ⟨pk1r_3, pn1r_3, pz1r_3⟩, hmbr_3, htsr_3⟩ := id (h_3.2.2.2.1 r hr)
        refine pm_aload_n dX6_watch_51 rfl ?_
        refine pm_g_Mill_letter (by (try simp only [pm_k_si, pm_k_sj, pm_k_sp, pm_k_sx, pm_k_sz, pm_k_sr, pm_k_sy]); assumption) pm_f_X6_42 (by (try simp only [pm_p_si, pm_p_sj, pm_p_sx, pm_p_sz, pm_p_sr, pm_p_sy]); assumption) dX6_watch_52 ?_
        refine pm_iload dX6_watch_55 rfl ?_
        refine pm_aload_n dX6_watch_57 rfl ?_
        refine pm_g_Proc_pid (by (try simp only [pm_k_si, pm_k_sj, pm_k_sp, pm_k_sx, pm_k_sz, pm_k_sr, pm_k_sy]); assumption) pm_f_X6_88 dX6_watch_58 ?_
        refine pm_aload_n dX6_watch_61 rfl ?_
        refine pm_g_Mill_cause (by (try simp only [pm_k_si, pm_k_sj, pm_k_sp, pm_k_sx, pm_k_sz, pm_k_sr, pm_k_sy]); assumption) pm_f_X6_46 (by (try simp only [pm_p_si, pm_p_sj, pm_p_sx, pm_p_sz, pm_p_sr, pm_p_sy]); assumption) dX6_watch_62 ?_
        rw [ppidr_3]
        refine pm_vv (c_X3_setDown G l bs (Y.1 11) (Y.1 12) (Y.1 13) (Y.1 14) [1, 3] (nI (az_a Z 8 + 1)) (nI (r + 1)) S48 hLt_3 h48.2 (fun z => by have := h.cc (by decide) (by decide) z; omega) (fun z => by have := h.cc (by decide) (by decide) z; omega)) pm_y_X3_setDown pm_v_X3_setDown pm_m_X6_381 (c := 3) (r := (RX3, TX3, 2)) rfl rfl hLt_3.1 dX6_watch_65 rfl rfl (by decide) (Nat.le_of_ble_eq_true rfl) (fun S65 h65 => ?_)
        have hx4 := hx3.own (t := 11) (Or.inl rfl) h65.1
        obtain ⟨h_4, hmk_4⟩ := id hx4
        have hA_4 := h_4.2.2.2.2.2.1
        obtain ⟨⟨hk0_4, hr0_4, hr1_4, hr2_4, hr3_4, hr4_4, hr5_4, hr6_4, hr7_4⟩, ⟨hk1_4, hl1_4⟩, ⟨hk2_4, hl2_4⟩, ⟨hk3_4, hl3_4⟩, ⟨hk4_4, hl4_4⟩, hWt_4, hSh_4, hLt_4, hCs_4⟩ := id h_4.2.2.1
        obtain ⟨kW_4, rW1_4, rW2_4, rW3_4, kW1_4, nW1_4, kW2_4, nW2_4, kW3_4, nW3_4, -⟩ := id hWt_4
        have hB_4 := h_4.2.2.2.2.1 p hp
        obtain ⟨⟨pk0_4, pr1_4, pr2_4, pr4_4, pr6_4, ppid_4⟩, ⟨pk1_4, pn1_4, pz1_4⟩, hmb_4, hts_4⟩ := id (h_4.2.2.2.1 p hp)
        refine pm_aload_n dX6_watch_68 rfl ?_
        refine pm_aload_n dX6_watch_69 rfl ?_
        refine pm_aload_n dX6_watch_70 rfl ?_
        refine pm_g_Mill_letter (by (try simp only [pm_k_si, pm_k_sj, pm_k_sp, pm_k_sx, pm_k_sz, pm_k_sr, pm_k_sy]); assumption) pm_f_X6_42 (by (try simp only [pm_p_si, pm_p_sj, pm_p_sx, pm_p_sz, pm_p_sr, pm_p_sy]); assumption) dX6_watch_71 ?_
        rw [eX, ← zU_eq (Z := Z) (W := (zs_t (zs_a Z 8 (az_a Z 8 + 1)) 0 p j [0, nI (az_a Z 8 + 1)])) rfl (fun _ _ => rfl)]
        refine pm_vik (kc2 := 0) (ks2 := 0) (c_X6_deliver G l bs (zs_t (zs_a Z 8 (az_a Z 8 + 1)) 0 p j [0, nI (az_a Z 8 + 1)]) Y E p (Y.1 11) (Y.1 12) _ S65 hx4 hn hp hI2.sm (hI.2.2.1 p hp).2 h65.2) pm_y_X6_deliver pm_v_X6_deliver pm_m_X6_99 (c := 6) (r := (RX6, TX6, 16)) rfl rfl (by (try simp only [pm_k_si, pm_k_sj, pm_k_sp, pm_k_sx, pm_k_sz, pm_k_sr, pm_k_sy]); assumption) dX6_watch_74 rfl rfl (by decide) (Nat.le_of_ble_eq_true rfl) (Nat.le_refl _) (Nat.le_refl _) (fun x74 S74 h74 => ?_)
        obtain ⟨Y2, hle, hx5, -⟩ := h74
        have hE : ∃ Y2, yLe (az_a Z 0) Y Y2 ∧ pm_CX (zWt Z p j (some r)) S74 Y2 E := ⟨Y2, hle, by rw [eX]; exact hx5⟩
        refine pm_pop dX6_watch_77 ?_
        refine pm_goto (tgt := 98) dX6_watch_78 (by decide) ?_
        refine pm_iconst (v := (-1)) dX6_watch_98 (by decide) ?_
        subst hQ9
        refine pm_iret dX6_watch_99 ?_
        exact ⟨by rw [hq, if_neg (by simp), if_neg h9], by rw [hq]; exact hE⟩
    · skip
      have h9 : 200 ≤ (az_w Z).length := by
        rcases Nat.lt_or_ge (az_w Z).length 200 with z | z
        · rw [if_pos z] at e10; exact absurd e10 h13
        · exact z
      refine pm_iconst (v := 5) dX6_watch_16 (by decide) ?_
      subst hQ9
      refine pm_iret dX6_watch_17 ?_
      exact ⟨by rw [hq, if_neg (by simp), if_pos h9], Y, yLe.rf, by rw [hq]; show pm_CX (if _ then _ else _) _ _ _; rw [if_pos h9]; exact hx⟩
  | none =>
    refine pm_ifnonnull_n dX6_watch_1 ?_
    refine pm_iconst (v := 4) dX6_watch_4 (by decide) ?_
    subst hQ9
    refine pm_iret dX6_watch_5 ?_
    exact ⟨by rw [if_pos hq], Y, yLe.rf, by rw [hq]; exact hx⟩

set_option maxHeartbeats 4000000 in
set_option maxRecDepth 100000 in
theorem c_X6_post (G : pm_G) (l : Launch) (bs : Nat) (Z : az) (Y : pm_Y) (E : pm_S) (s : Nat) (t r t2 r2 : Nat) (u w : List Int32) (S : pm_S) (hx : pm_CX Z S Y E) (hI : zI s Z) (ht : pm_tm S t r u) (hu : tW (az_a Z 0) u) (ht2 : pm_tm S t2 r2 w) : pm_M G l bs yX6_post cX6_post 4 (some .int) 4 (zU (zPst Z u w) - zU Z) (49 * (zU (zPst Z u w) - zU Z)) [.ref (Y.1 0), .ref t, .ref t2] S (pm_qi (fun x S2 => x = (if zKind u = 1 ∨ zKind u = 2 then -1 else 4) ∧ ∃ Y2, yLe (az_a Z 0) Y Y2 ∧ pm_CX (zPst Z u w) S2 Y2 E)) := by
  have hn := hI.1
  have hsm := hI.sm
  have hl := hu.len
  have hadn : ∀ q, zAd Z u = some q → q < az_a Z 0 := fun q hq => by
    unfold zAd at hq
    split at hq
    · split at hq
      · exact (hI.2.2.2.2.2.1.2 _ q hq).2.1
      · cases hq
    · unfold zTo at hq
      split at hq
      · split at hq
        · cases hq
          rename_i z
          unfold zPid
          omega
        · cases hq
      · cases hq
  obtain ⟨h, hmk⟩ := id hx
  have hA := h.2.2.2.2.2.1
  obtain ⟨⟨hk0, hr0, hr1, hr2, hr3, hr4, hr5, hr6, hr7⟩, ⟨hk1, hl1⟩, ⟨hk2, hl2⟩, ⟨hk3, hl3⟩, ⟨hk4, hl4⟩, hWt, hSh, hLt, hCs⟩ := id h.2.2.1
  obtain ⟨kW, rW1, rW2, rW3, kW1, nW1, kW2, nW2, kW3, nW3, -⟩ := id hWt
  refine pm_Mi (L := [.ref (Y.1 0), .ref t, .ref t2, pm_u]) (by decide +kernel) rfl (pm_en_1 rfl (pm_en_1 rfl (pm_en_1 rfl (pm_en_0 rfl)))) ?_
  generalize hQ9 : pm_xi (fun x S2 => x = (if zKind u = 1 ∨ zKind u = 2 then -1 else 4) ∧ ∃ Y2, yLe (az_a Z 0) Y Y2 ∧ pm_CX (zPst Z u w) S2 Y2 E) = Q9
  refine pm_aload_n dX6_post_0 rfl ?_
  refine pm_vi (c_X3_kind G l bs t _ u _ ht (by omega)) pm_y_X3_kind pm_v_X3_kind pm_m_X6_167 (c := 3) (r := (RX3, TX3, 2)) rfl rfl ht.1.1 dX6_post_1 rfl rfl (by decide) (Nat.le_of_ble_eq_true rfl) (fun x1 S1 h1 => ?_)
  obtain ⟨e1, rfl⟩ := h1
  replace e1 := kd_of e1
  subst e1
  refine pm_iconst (v := 2) dX6_post_4 (by decide) ?_
  refine pm_icmp_eq (tgt := 18) dX6_post_5 (by decide) (fun h5 => ?_) (fun h5 => ?_)
  · skip
    have h9 : zKind u = 2 := h5
    have hok : zKind u = 1 ∨ zKind u = 2 := Or.inr h9
    refine pm_aload_n dX6_post_18 rfl ?_
    refine pm_vi (c_X3_kind G l bs t _ u _ ht (by omega)) pm_y_X3_kind pm_v_X3_kind pm_m_X6_167 (c := 3) (r := (RX3, TX3, 2)) rfl rfl ht.1.1 dX6_post_19 rfl rfl (by decide) (Nat.le_of_ble_eq_true rfl) (fun x19 S19 h19 => ?_)
    obtain ⟨e19, rfl⟩ := h19
    replace e19 := kd_of e19
    subst e19
    refine pm_iconst (v := 1) dX6_post_22 (by decide) ?_
    refine pm_icmp_ne (tgt := 37) dX6_post_23 (by decide) (fun h23 => ?_) (fun h23 => ?_)
    · skip
      have h8 : ¬ zKind u = 1 := h23
      refine pm_aload_n dX6_post_37 rfl ?_
      refine pm_aload_n dX6_post_38 rfl ?_
      refine pm_vr (c_X6_findByTerm G l bs Z Y E t r u _ h hn ht (by omega)) pm_y_X6_findByTerm pm_v_X6_findByTerm pm_m_X6_287 (c := 6) (r := (RX6, TX6, 16)) rfl rfl (by (try simp only [pm_k_si, pm_k_sj, pm_k_sp, pm_k_sx, pm_k_sz, pm_k_sr, pm_k_sy]); assumption) dX6_post_39 rfl rfl (by decide) (Nat.le_of_ble_eq_true rfl) (fun x39 S39 h39 => ?_)
      obtain ⟨e39, rfl⟩ := h39
      have eA : x39 = (zAd Z u).map (fun p => Y.1 (pq p 0)) := by
        rw [e39, zAd, if_neg h8, zTo]
        by_cases z : zKind u = 2
        · rw [if_pos z]
          by_cases z2 : 1 ≤ (zVal u).toInt ∧ (zVal u).toInt ≤ az_a Z 0
          · rw [if_pos ⟨z, z2⟩, if_pos z2]; rfl
          · rw [if_neg (fun z3 => z2 z3.2), if_neg z2]; rfl
        · rw [if_neg z, if_neg (fun z3 => z z3.1)]; rfl
      subst eA
      refine pm_astn dX6_post_42 (i := 3) rfl (by decide) ?_
      dsimp only [List.set]
      refine pm_aload_n dX6_post_43 rfl ?_
      cases hq : zAd Z u with
      | some q =>
        refine pm_ifnull_r dX6_post_44 ?_
        have hqn : q < az_a Z 0 := hadn q hq
        have eX : zPst Z u w = zComes Z q w := by unfold zPst; rw [hq]
        refine pm_aload_n dX6_post_47 rfl ?_
        refine pm_aload_n dX6_post_48 rfl ?_
        refine pm_aload_n dX6_post_49 rfl ?_
        rw [eX]
        refine pm_vik (kc2 := 0) (ks2 := 0) (c_X6_deliver G l bs Z Y E q t2 r2 w _ hx hn hqn hsm (hI.2.2.1 q hqn).2 ht2) pm_y_X6_deliver pm_v_X6_deliver pm_m_X6_99 (c := 6) (r := (RX6, TX6, 16)) rfl rfl (by (try simp only [pm_k_si, pm_k_sj, pm_k_sp, pm_k_sx, pm_k_sz, pm_k_sr, pm_k_sy]); assumption) dX6_post_50 rfl rfl (by decide) (Nat.le_of_ble_eq_true rfl) (Nat.le_refl _) (Nat.le_refl _) (fun x50 S50 h50 => ?_)
        obtain ⟨Y2, hle, hx3, -⟩ := h50
        have hE : ∃ Y2, yLe (az_a Z 0) Y Y2 ∧ pm_CX (zPst Z u w) S50 Y2 E := ⟨Y2, hle, by rw [eX]; exact hx3⟩
        refine pm_pop dX6_post_53 ?_
        refine pm_iconst (v := (-1)) dX6_post_54 (by decide) ?_
        subst hQ9
        refine pm_iret dX6_post_55 ?_
        exact ⟨by rw [if_pos hok], hE⟩
      | none =>
        refine pm_ifnull_n (tgt := 54) dX6_post_44 (by decide) ?_
        have hE := (⟨Y, yLe.rf, by unfold zPst; rw [hq]; exact hx⟩ : ∃ Y2, yLe (az_a Z 0) Y Y2 ∧ pm_CX (zPst Z u w) _ Y2 E)
        refine pm_iconst (v := (-1)) dX6_post_54 (by decide) ?_
        subst hQ9
        refine pm_iret dX6_post_55 ?_
        exact ⟨by rw [if_pos hok], hE⟩
    · skip
      have h8 : zKind u = 1 := h23
      refine pm_aload_n dX6_post_26 rfl ?_
      refine pm_aload_n dX6_post_27 rfl ?_
      refine pm_vi (c_X3_value G l bs t _ u _ ht (by omega)) pm_y_X3_value pm_v_X3_value pm_m_X6_170 (c := 3) (r := (RX3, TX3, 2)) rfl rfl ht.1.1 dX6_post_28 rfl rfl (by decide) (Nat.le_of_ble_eq_true rfl) (fun x28 S28 h28 => ?_)
      obtain ⟨e28, rfl⟩ := h28
      replace e28 := val_of e28
      subst e28
      refine pm_vr (c_X6_findByName G l bs Z Y E (zVal u) _ h hn) pm_y_X6_findByName pm_v_X6_findByName pm_m_X6_313 (c := 6) (r := (RX6, TX6, 16)) rfl rfl (by (try simp only [pm_k_si, pm_k_sj, pm_k_sp, pm_k_sx, pm_k_sz, pm_k_sr, pm_k_sy]); assumption) dX6_post_31 rfl rfl (by decide) (Nat.le_of_ble_eq_true rfl) (fun x31 S31 h31 => ?_)
      obtain ⟨e31, e32⟩ := h31
      subst e32
      have eA : x31 = (zAd Z u).map (fun p => Y.1 (pq p 0)) := by
        rw [e31, zAd, if_pos h8]
        by_cases z : 0 ≤ (zVal u).toInt ∧ (zVal u).toInt < 100
        · rw [if_pos z, if_pos z]
        · rw [if_neg z, if_neg z]; rfl
      subst eA
      refine pm_goto (tgt := 42) dX6_post_34 (by decide) ?_
      refine pm_astn dX6_post_42 (i := 3) rfl (by decide) ?_
      dsimp only [List.set]
      refine pm_aload_n dX6_post_43 rfl ?_
      cases hq : zAd Z u with
      | some q =>
        refine pm_ifnull_r dX6_post_44 ?_
        have hqn : q < az_a Z 0 := hadn q hq
        have eX : zPst Z u w = zComes Z q w := by unfold zPst; rw [hq]
        refine pm_aload_n dX6_post_47 rfl ?_
        refine pm_aload_n dX6_post_48 rfl ?_
        refine pm_aload_n dX6_post_49 rfl ?_
        rw [eX]
        refine pm_vik (kc2 := 0) (ks2 := 0) (c_X6_deliver G l bs Z Y E q t2 r2 w _ hx hn hqn hsm (hI.2.2.1 q hqn).2 ht2) pm_y_X6_deliver pm_v_X6_deliver pm_m_X6_99 (c := 6) (r := (RX6, TX6, 16)) rfl rfl (by (try simp only [pm_k_si, pm_k_sj, pm_k_sp, pm_k_sx, pm_k_sz, pm_k_sr, pm_k_sy]); assumption) dX6_post_50 rfl rfl (by decide) (Nat.le_of_ble_eq_true rfl) (Nat.le_refl _) (Nat.le_refl _) (fun x50 S50 h50 => ?_)
        obtain ⟨Y2, hle, hx3, -⟩ := h50
        have hE : ∃ Y2, yLe (az_a Z 0) Y Y2 ∧ pm_CX (zPst Z u w) S50 Y2 E := ⟨Y2, hle, by rw [eX]; exact hx3⟩
        refine pm_pop dX6_post_53 ?_
        refine pm_iconst (v := (-1)) dX6_post_54 (by decide) ?_
        subst hQ9
        refine pm_iret dX6_post_55 ?_
        exact ⟨by rw [if_pos hok], hE⟩
      | none =>
        refine pm_ifnull_n (tgt := 54) dX6_post_44 (by decide) ?_
        have hE := (⟨Y, yLe.rf, by unfold zPst; rw [hq]; exact hx⟩ : ∃ Y2, yLe (az_a Z 0) Y Y2 ∧ pm_CX (zPst Z u w) _ Y2 E)
        refine pm_iconst (v := (-1)) dX6_post_54 (by decide) ?_
        subst hQ9
        refine pm_iret dX6_post_55 ?_
        exact ⟨by rw [if_pos hok], hE⟩
  · skip
    refine pm_aload_n dX6_post_8 rfl ?_
    refine pm_vi (c_X3_kind G l bs t _ u _ ht (by omega)) pm_y_X3_kind pm_v_X3_kind pm_m_X6_167 (c := 3) (r := (RX3, TX3, 2)) rfl rfl ht.1.1 dX6_post_9 rfl rfl (by decide) (Nat.le_of_ble_eq_true rfl) (fun x9 S9 h9 => ?_)
    obtain ⟨e9, rfl⟩ := h9
    replace e9 := kd_of e9
    subst e9
    refine pm_iconst (v := 1) dX6_post_12 (by decide) ?_
    refine pm_icmp_eq (tgt := 18) dX6_post_13 (by decide) (fun h13 => ?_) (fun h13 => ?_)
    · skip
      have h9 : zKind u = 1 := h13
      have hok : zKind u = 1 ∨ zKind u = 2 := Or.inl h9
      refine pm_aload_n dX6_post_18 rfl ?_
      refine pm_vi (c_X3_kind G l bs t _ u _ ht (by omega)) pm_y_X3_kind pm_v_X3_kind pm_m_X6_167 (c := 3) (r := (RX3, TX3, 2)) rfl rfl ht.1.1 dX6_post_19 rfl rfl (by decide) (Nat.le_of_ble_eq_true rfl) (fun x19 S19 h19 => ?_)
      obtain ⟨e19, rfl⟩ := h19
      replace e19 := kd_of e19
      subst e19
      refine pm_iconst (v := 1) dX6_post_22 (by decide) ?_
      refine pm_icmp_ne (tgt := 37) dX6_post_23 (by decide) (fun h23 => ?_) (fun h23 => ?_)
      · skip
        have h8 : ¬ zKind u = 1 := h23
        refine pm_aload_n dX6_post_37 rfl ?_
        refine pm_aload_n dX6_post_38 rfl ?_
        refine pm_vr (c_X6_findByTerm G l bs Z Y E t r u _ h hn ht (by omega)) pm_y_X6_findByTerm pm_v_X6_findByTerm pm_m_X6_287 (c := 6) (r := (RX6, TX6, 16)) rfl rfl (by (try simp only [pm_k_si, pm_k_sj, pm_k_sp, pm_k_sx, pm_k_sz, pm_k_sr, pm_k_sy]); assumption) dX6_post_39 rfl rfl (by decide) (Nat.le_of_ble_eq_true rfl) (fun x39 S39 h39 => ?_)
        obtain ⟨e39, rfl⟩ := h39
        have eA : x39 = (zAd Z u).map (fun p => Y.1 (pq p 0)) := by
          rw [e39, zAd, if_neg h8, zTo]
          by_cases z : zKind u = 2
          · rw [if_pos z]
            by_cases z2 : 1 ≤ (zVal u).toInt ∧ (zVal u).toInt ≤ az_a Z 0
            · rw [if_pos ⟨z, z2⟩, if_pos z2]; rfl
            · rw [if_neg (fun z3 => z2 z3.2), if_neg z2]; rfl
          · rw [if_neg z, if_neg (fun z3 => z z3.1)]; rfl
        subst eA
        refine pm_astn dX6_post_42 (i := 3) rfl (by decide) ?_
        dsimp only [List.set]
        refine pm_aload_n dX6_post_43 rfl ?_
        cases hq : zAd Z u with
        | some q =>
          refine pm_ifnull_r dX6_post_44 ?_
          have hqn : q < az_a Z 0 := hadn q hq
          have eX : zPst Z u w = zComes Z q w := by unfold zPst; rw [hq]
          refine pm_aload_n dX6_post_47 rfl ?_
          refine pm_aload_n dX6_post_48 rfl ?_
          refine pm_aload_n dX6_post_49 rfl ?_
          rw [eX]
          refine pm_vik (kc2 := 0) (ks2 := 0) (c_X6_deliver G l bs Z Y E q t2 r2 w _ hx hn hqn hsm (hI.2.2.1 q hqn).2 ht2) pm_y_X6_deliver pm_v_X6_deliver pm_m_X6_99 (c := 6) (r := (RX6, TX6, 16)) rfl rfl (by (try simp only [pm_k_si, pm_k_sj, pm_k_sp, pm_k_sx, pm_k_sz, pm_k_sr, pm_k_sy]); assumption) dX6_post_50 rfl rfl (by decide) (Nat.le_of_ble_eq_true rfl) (Nat.le_refl _) (Nat.le_refl _) (fun x50 S50 h50 => ?_)
          obtain ⟨Y2, hle, hx3, -⟩ := h50
          have hE : ∃ Y2, yLe (az_a Z 0) Y Y2 ∧ pm_CX (zPst Z u w) S50 Y2 E := ⟨Y2, hle, by rw [eX]; exact hx3⟩
          refine pm_pop dX6_post_53 ?_
          refine pm_iconst (v := (-1)) dX6_post_54 (by decide) ?_
          subst hQ9
          refine pm_iret dX6_post_55 ?_
          exact ⟨by rw [if_pos hok], hE⟩
        | none =>
          refine pm_ifnull_n (tgt := 54) dX6_post_44 (by decide) ?_
          have hE := (⟨Y, yLe.rf, by unfold zPst; rw [hq]; exact hx⟩ : ∃ Y2, yLe (az_a Z 0) Y Y2 ∧ pm_CX (zPst Z u w) _ Y2 E)
          refine pm_iconst (v := (-1)) dX6_post_54 (by decide) ?_
          subst hQ9
          refine pm_iret dX6_post_55 ?_
          exact ⟨by rw [if_pos hok], hE⟩
      · skip
        have h8 : zKind u = 1 := h23
        refine pm_aload_n dX6_post_26 rfl ?_
        refine pm_aload_n dX6_post_27 rfl ?_
        refine pm_vi (c_X3_value G l bs t _ u _ ht (by omega)) pm_y_X3_value pm_v_X3_value pm_m_X6_170 (c := 3) (r := (RX3, TX3, 2)) rfl rfl ht.1.1 dX6_post_28 rfl rfl (by decide) (Nat.le_of_ble_eq_true rfl) (fun x28 S28 h28 => ?_)
        obtain ⟨e28, rfl⟩ := h28
        replace e28 := val_of e28
        subst e28
        refine pm_vr (c_X6_findByName G l bs Z Y E (zVal u) _ h hn) pm_y_X6_findByName pm_v_X6_findByName pm_m_X6_313 (c := 6) (r := (RX6, TX6, 16)) rfl rfl (by (try simp only [pm_k_si, pm_k_sj, pm_k_sp, pm_k_sx, pm_k_sz, pm_k_sr, pm_k_sy]); assumption) dX6_post_31 rfl rfl (by decide) (Nat.le_of_ble_eq_true rfl) (fun x31 S31 h31 => ?_)
        obtain ⟨e31, e32⟩ := h31
        subst e32
        have eA : x31 = (zAd Z u).map (fun p => Y.1 (pq p 0)) := by
          rw [e31, zAd, if_pos h8]
          by_cases z : 0 ≤ (zVal u).toInt ∧ (zVal u).toInt < 100
          · rw [if_pos z, if_pos z]
          · rw [if_neg z, if_neg z]; rfl
        subst eA
        refine pm_goto (tgt := 42) dX6_post_34 (by decide) ?_
        refine pm_astn dX6_post_42 (i := 3) rfl (by decide) ?_
        dsimp only [List.set]
        refine pm_aload_n dX6_post_43 rfl ?_
        cases hq : zAd Z u with
        | some q =>
          refine pm_ifnull_r dX6_post_44 ?_
          have hqn : q < az_a Z 0 := hadn q hq
          have eX : zPst Z u w = zComes Z q w := by unfold zPst; rw [hq]
          refine pm_aload_n dX6_post_47 rfl ?_
          refine pm_aload_n dX6_post_48 rfl ?_
          refine pm_aload_n dX6_post_49 rfl ?_
          rw [eX]
          refine pm_vik (kc2 := 0) (ks2 := 0) (c_X6_deliver G l bs Z Y E q t2 r2 w _ hx hn hqn hsm (hI.2.2.1 q hqn).2 ht2) pm_y_X6_deliver pm_v_X6_deliver pm_m_X6_99 (c := 6) (r := (RX6, TX6, 16)) rfl rfl (by (try simp only [pm_k_si, pm_k_sj, pm_k_sp, pm_k_sx, pm_k_sz, pm_k_sr, pm_k_sy]); assumption) dX6_post_50 rfl rfl (by decide) (Nat.le_of_ble_eq_true rfl) (Nat.le_refl _) (Nat.le_refl _) (fun x50 S50 h50 => ?_)
          obtain ⟨Y2, hle, hx3, -⟩ := h50
          have hE : ∃ Y2, yLe (az_a Z 0) Y Y2 ∧ pm_CX (zPst Z u w) S50 Y2 E := ⟨Y2, hle, by rw [eX]; exact hx3⟩
          refine pm_pop dX6_post_53 ?_
          refine pm_iconst (v := (-1)) dX6_post_54 (by decide) ?_
          subst hQ9
          refine pm_iret dX6_post_55 ?_
          exact ⟨by rw [if_pos hok], hE⟩
        | none =>
          refine pm_ifnull_n (tgt := 54) dX6_post_44 (by decide) ?_
          have hE := (⟨Y, yLe.rf, by unfold zPst; rw [hq]; exact hx⟩ : ∃ Y2, yLe (az_a Z 0) Y Y2 ∧ pm_CX (zPst Z u w) _ Y2 E)
          refine pm_iconst (v := (-1)) dX6_post_54 (by decide) ?_
          subst hQ9
          refine pm_iret dX6_post_55 ?_
          exact ⟨by rw [if_pos hok], hE⟩
    · skip
      refine pm_iconst (v := 4) dX6_post_16 (by decide) ?_
      subst hQ9
      refine pm_iret dX6_post_17 ?_
      exact ⟨by rw [if_neg (fun z => z.elim h13 h5)], Y, yLe.rf, by unfold zPst zAd zTo; rw [if_neg h13, if_neg h5]; exact hx⟩

