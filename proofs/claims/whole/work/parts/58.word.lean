/-! ProcessMill: one word -/
def wQ (Z : az) (Y : pm_Y) (E : pm_S) (p : Nat) (W : az) (x : Int32) (S2 : pm_S) : Prop := ∃ Z1 Y2, yLe (az_a Z 0) Y Y2 ∧ pm_CX Z1 S2 Y2 E ∧ ((x = -1 ∧ Z1 = W) ∨ (x = 4 ∧ Z1 = Z ∧ W = zBad Z p) ∨ (x = 5 ∧ Z1 = Z ∧ W = zLim Z p))
theorem wok {Z W : az} {Y Y2 : pm_Y} {E S2 : pm_S} {p : Nat} (hle : yLe (az_a Z 0) Y Y2) (hx : pm_CX W S2 Y2 E) : wQ Z Y E p W (-1) S2 := ⟨W, Y2, hle, hx, Or.inl ⟨rfl, rfl⟩⟩
theorem wbad {Z W : az} {Y : pm_Y} {E S2 : pm_S} {p : Nat} (hx : pm_CX Z S2 Y E) (h : W = zBad Z p) : wQ Z Y E p W 4 S2 := ⟨Z, Y, yLe.rf, hx, Or.inr (Or.inl ⟨rfl, rfl, h⟩)⟩
theorem wlim {Z W : az} {Y : pm_Y} {E S2 : pm_S} {p : Nat} (hx : pm_CX Z S2 Y E) (h : W = zLim Z p) : wQ Z Y E p W 5 S2 := ⟨Z, Y, yLe.rf, hx, Or.inr (Or.inr ⟨rfl, rfl, h⟩)⟩
theorem wgen {Z Z1 W : az} {Y Y2 : pm_Y} {E S2 : pm_S} {p : Nat} {x : Int32} (hle : yLe (az_a Z 0) Y Y2) (hx : pm_CX Z1 S2 Y2 E) (h : (x = -1 ∧ Z1 = W) ∨ (x = 4 ∧ Z1 = Z ∧ W = zBad Z p) ∨ (x = 5 ∧ Z1 = Z ∧ W = zLim Z p)) : wQ Z Y E p W x S2 := ⟨Z1, Y2, hle, hx, h⟩
theorem zTo_lt {Z : az} {u : List Int32} : ∀ q, zTo Z u = some q → q < az_a Z 0 := fun q h => by
  unfold zTo at h
  split at h
  · split at h
    · have e := Option.some.inj h
      unfold zPid at e
      omega
    · cases h
  · cases h
theorem zTo_pid {Z : az} {u : List Int32} (h : tW (az_a Z 0) u) (h2 : zKind u = 2) : zTo Z u = some (zPid u) := by
  obtain ⟨-, a, b, -⟩ := h.pid_of h2
  unfold zTo
  rw [if_pos h2, if_pos ⟨a, b⟩]
theorem zTo_no {Z : az} {u : List Int32} (h2 : ¬ zKind u = 2) : zTo Z u = none := by
  unfold zTo
  rw [if_neg h2]
theorem zTo_map {Z : az} {u : List Int32} {g : Nat → Nat} : (if zKind u = 2 ∧ 1 ≤ (zVal u).toInt ∧ (zVal u).toInt ≤ az_a Z 0 then some (g (zPid u)) else none) = (zTo Z u).map g := by
  unfold zTo
  by_cases h1 : zKind u = 2
  · by_cases h2 : 1 ≤ (zVal u).toInt ∧ (zVal u).toInt ≤ az_a Z 0
    · rw [if_pos ⟨h1, h2⟩, if_pos h1, if_pos h2]; rfl
    · rw [if_neg (fun z => h2 z.2), if_pos h1, if_neg h2]; rfl
  · rw [if_neg (fun z => h1 z.1), if_neg h1]; rfl
theorem pm_kd2 {w : List Int32} {x : Int32} (h : w[0]?.map pm_kd = some x) : zKind w = x := kd_of h
set_option maxHeartbeats 4000000 in
set_option maxRecDepth 100000 in
theorem c_X3_setFirst0 (G : pm_G) (l : Launch) (bs : Nat) (t t2 r2 : Nat) (w : List Int32) (S : pm_S) (hb : pm_tm S t2 r2 w) (hl : 0 < w.length) (hne : ¬ zKind w = 3) : pm_M G l bs yX3_setFirst cX3_setFirst 2 (some .boolean) 2 0 0 [.ref t, .ref t2] S (pm_qi (fun x S2 => x = 0 ∧ S2 = S)) := by
  refine pm_Mz (L := [.ref t, .ref t2]) (by decide +kernel) rfl (pm_en_1 rfl (pm_en_1 rfl (pm_en_0 rfl))) ?_
  generalize hQ9 : pm_xz (fun x S2 => x = 0 ∧ S2 = S) = Q9
  refine pm_aload_n dX3_setFirst_0 rfl ?_
  refine pm_vi (c_X3_kind G l bs t2 r2 w S hb (by omega)) pm_y_X3_kind pm_v_X3_kind pm_m_X3_33 (c := 3) (r := (RX3, TX3, 2)) rfl rfl hb.1.1 dX3_setFirst_1 rfl rfl (by decide) (Nat.le_of_ble_eq_true rfl) (fun x1 S1 h1 => ?_)
  obtain ⟨e1, rfl⟩ := h1
  obtain rfl := kd_of e1
  refine pm_iconst (v := 3) dX3_setFirst_4 (by decide) ?_
  refine pm_icmp_ne (tgt := 25) dX3_setFirst_5 (by decide) (fun h5 => ?_) (fun h5 => ?_)
  · skip
    refine pm_iconst (v := 0) dX3_setFirst_25 (by decide) ?_
    subst hQ9
    refine pm_zret dX3_setFirst_26 (by first | exact Or.inl rfl | exact Or.inr rfl | assumption) ?_
    exact ⟨rfl, rfl⟩
  · exact absurd h5 hne

set_option maxHeartbeats 4000000 in
set_option maxRecDepth 100000 in
theorem c_X3_setSecond0 (G : pm_G) (l : Launch) (bs : Nat) (t t2 r2 : Nat) (w : List Int32) (S : pm_S) (hb : pm_tm S t2 r2 w) (hl : 0 < w.length) (hne : ¬ zKind w = 3) : pm_M G l bs yX3_setSecond cX3_setSecond 2 (some .boolean) 2 0 0 [.ref t, .ref t2] S (pm_qi (fun x S2 => x = 0 ∧ S2 = S)) := by
  refine pm_Mz (L := [.ref t, .ref t2]) (by decide +kernel) rfl (pm_en_1 rfl (pm_en_1 rfl (pm_en_0 rfl))) ?_
  generalize hQ9 : pm_xz (fun x S2 => x = 0 ∧ S2 = S) = Q9
  refine pm_aload_n dX3_setSecond_0 rfl ?_
  refine pm_vi (c_X3_kind G l bs t2 r2 w S hb (by omega)) pm_y_X3_kind pm_v_X3_kind pm_m_X3_33 (c := 3) (r := (RX3, TX3, 2)) rfl rfl hb.1.1 dX3_setSecond_1 rfl rfl (by decide) (Nat.le_of_ble_eq_true rfl) (fun x1 S1 h1 => ?_)
  obtain ⟨e1, rfl⟩ := h1
  obtain rfl := kd_of e1
  refine pm_iconst (v := 3) dX3_setSecond_4 (by decide) ?_
  refine pm_icmp_ne (tgt := 28) dX3_setSecond_5 (by decide) (fun h5 => ?_) (fun h5 => ?_)
  · skip
    refine pm_iconst (v := 0) dX3_setSecond_28 (by decide) ?_
    subst hQ9
    refine pm_zret dX3_setSecond_29 (by first | exact Or.inl rfl | exact Or.inr rfl | assumption) ?_
    exact ⟨rfl, rfl⟩
  · exact absurd h5 hne

set_option maxHeartbeats 4000000 in
set_option maxRecDepth 100000 in
theorem w_0 (G : pm_G) (l : Launch) (bs : Nat) (Z : az) (Y : pm_Y) (E : pm_S) (s : Nat) (p ja jb jc : Nat) (a b c : Int32) (vo : Value) (W : az) (S : pm_S) (hx : pm_CX Z S Y E) (hI : zI s Z) (hp : p < az_a Z 0) (h0 : az_b Z 1 p = 0) (hja : ja < 8) (hjb : jb < 8) (hjc : jc < 8) (hW : zDies Z p [1, 0] = W) : pm_W G l bs yX6_doWord.cls cX6_doWord 9 false 6 (zU W - zU Z) (49 * (zU W - zU Z)) (pm_xi (wQ Z Y E p W)) 184 [.ref (Y.1 0), .ref (Y.1 (pq p 0)), vo, .int a, .int b, .int c, .ref (Y.1 (pq p (10 + ja))), .ref (Y.1 (pq p (10 + jb))), .ref (Y.1 (pq p (10 + jc)))] [] S := by
  have hn := hI.1
  have hsm := hI.sm
  obtain ⟨h, hmk⟩ := id hx
  have hA := h.2.2.2.2.2.1
  obtain ⟨⟨hk0, hr0, hr1, hr2, hr3, hr4, hr5, hr6, hr7⟩, ⟨hk1, hl1⟩, ⟨hk2, hl2⟩, ⟨hk3, hl3⟩, ⟨hk4, hl4⟩, hWt, hSh, hLt, hCs⟩ := id h.2.2.1
  obtain ⟨kW, rW1, rW2, rW3, kW1, nW1, kW2, nW2, kW3, nW3, -⟩ := id hWt
  have hB := h.2.2.2.2.1 p hp
  obtain ⟨⟨pk0, pr1, pr2, pr4, pr6, ppid⟩, ⟨pk1, pn1, pz1⟩, hmb, hts⟩ := id (h.2.2.2.1 p hp)
  have h02 : az_b Z 1 p ≠ 2 := by omega
  have hta := hx.tm (j := ja) hp hja
  have htb := hx.tm (j := jb) hp hjb
  have htc := hx.tm (j := jc) hp hjc
  have hwa := hI.rg hp hja
  have hwb := hI.rg hp hjb
  have hwc := hI.rg hp hjc
  have hla := hwa.len
  have hlb := hwb.len
  have hlc := hwc.len
  have kta := hta.1.1
  have ktb := htb.1.1
  have ktc := htc.1.1
  generalize hQ9 : pm_xi (wQ Z Y E p W) = Q9
  refine pm_aload_n dX6_doWord_184 rfl ?_
  refine pm_aload_n dX6_doWord_185 rfl ?_
  refine pm_vi (c_X6_end G l bs Z Y E s p _ hx hI hp h02) pm_y_X6_end pm_v_X6_end pm_m_X6_209 (c := 6) (r := (RX6, TX6, 16)) rfl rfl (by (try simp only [pm_k_si, pm_k_sj, pm_k_sp, pm_k_sx, pm_k_sz, pm_k_sr, pm_k_sy]); assumption) dX6_doWord_186 rfl rfl (by decide) (Nat.le_of_ble_eq_true rfl) (fun x186 S186 h186 => ?_)
  obtain ⟨rfl, hx2⟩ := h186
  subst hQ9
  refine pm_iret dX6_doWord_189 ?_
  subst hW
  exact wok yLe.rf hx2

set_option maxHeartbeats 4000000 in
set_option maxRecDepth 100000 in
theorem w_1 (G : pm_G) (l : Launch) (bs : Nat) (Z : az) (Y : pm_Y) (E : pm_S) (s : Nat) (p ja jb jc : Nat) (a b c : Int32) (vo : Value) (W : az) (S : pm_S) (hx : pm_CX Z S Y E) (hI : zI s Z) (hp : p < az_a Z 0) (h0 : az_b Z 1 p = 0) (hja : ja < 8) (hjb : jb < 8) (hjc : jc < 8) (hW : zs_t Z 0 p ja [0, b] = W) : pm_W G l bs yX6_doWord.cls cX6_doWord 9 false 6 (zU W - zU Z) (49 * (zU W - zU Z)) (pm_xi (wQ Z Y E p W)) 190 [.ref (Y.1 0), .ref (Y.1 (pq p 0)), vo, .int a, .int b, .int c, .ref (Y.1 (pq p (10 + ja))), .ref (Y.1 (pq p (10 + jb))), .ref (Y.1 (pq p (10 + jc)))] [] S := by
  have hn := hI.1
  have hsm := hI.sm
  obtain ⟨h, hmk⟩ := id hx
  have hA := h.2.2.2.2.2.1
  obtain ⟨⟨hk0, hr0, hr1, hr2, hr3, hr4, hr5, hr6, hr7⟩, ⟨hk1, hl1⟩, ⟨hk2, hl2⟩, ⟨hk3, hl3⟩, ⟨hk4, hl4⟩, hWt, hSh, hLt, hCs⟩ := id h.2.2.1
  obtain ⟨kW, rW1, rW2, rW3, kW1, nW1, kW2, nW2, kW3, nW3, -⟩ := id hWt
  have hB := h.2.2.2.2.1 p hp
  obtain ⟨⟨pk0, pr1, pr2, pr4, pr6, ppid⟩, ⟨pk1, pn1, pz1⟩, hmb, hts⟩ := id (h.2.2.2.1 p hp)
  have h02 : az_b Z 1 p ≠ 2 := by omega
  have hta := hx.tm (j := ja) hp hja
  have htb := hx.tm (j := jb) hp hjb
  have htc := hx.tm (j := jc) hp hjc
  have hwa := hI.rg hp hja
  have hwb := hI.rg hp hjb
  have hwc := hI.rg hp hjc
  have hla := hwa.len
  have hlb := hwb.len
  have hlc := hwc.len
  have kta := hta.1.1
  have ktb := htb.1.1
  have ktc := htc.1.1
  generalize hQ9 : pm_xi (wQ Z Y E p W) = Q9
  refine pm_aload dX6_doWord_190 rfl ?_
  refine pm_iconst (v := 0) dX6_doWord_192 (by decide) ?_
  refine pm_iload dX6_doWord_193 rfl ?_
  refine pm_ssi (c_X6_give G l bs (Y.1 (pq p (10 + ja))) (Y.1 (pq p (20 + ja))) 0 b _ hta.1) pm_y_X6_give pm_s_X6_give pm_m_X6_213 dX6_doWord_195 rfl rfl (by decide) (Nat.le_of_ble_eq_true rfl) (fun x195 S195 h195 => ?_)
  obtain ⟨rfl, f, t⟩ := h195
  subst hQ9
  refine pm_iret dX6_doWord_198 ?_
  subst hW
  exact wok yLe.rf (hx.rg hn hp hja f t)

set_option maxHeartbeats 4000000 in
set_option maxRecDepth 100000 in
theorem w_2 (G : pm_G) (l : Launch) (bs : Nat) (Z : az) (Y : pm_Y) (E : pm_S) (s : Nat) (p ja jb jc : Nat) (a b c : Int32) (vo : Value) (W : az) (S : pm_S) (hx : pm_CX Z S Y E) (hI : zI s Z) (hp : p < az_a Z 0) (h0 : az_b Z 1 p = 0) (hja : ja < 8) (hjb : jb < 8) (hjc : jc < 8) (hW : zs_t Z 0 p ja [1, nI (pm_mod b 100)] = W) : pm_W G l bs yX6_doWord.cls cX6_doWord 9 false 6 (zU W - zU Z) (49 * (zU W - zU Z)) (pm_xi (wQ Z Y E p W)) 199 [.ref (Y.1 0), .ref (Y.1 (pq p 0)), vo, .int a, .int b, .int c, .ref (Y.1 (pq p (10 + ja))), .ref (Y.1 (pq p (10 + jb))), .ref (Y.1 (pq p (10 + jc)))] [] S := by
  have hn := hI.1
  have hsm := hI.sm
  obtain ⟨h, hmk⟩ := id hx
  have hA := h.2.2.2.2.2.1
  obtain ⟨⟨hk0, hr0, hr1, hr2, hr3, hr4, hr5, hr6, hr7⟩, ⟨hk1, hl1⟩, ⟨hk2, hl2⟩, ⟨hk3, hl3⟩, ⟨hk4, hl4⟩, hWt, hSh, hLt, hCs⟩ := id h.2.2.1
  obtain ⟨kW, rW1, rW2, rW3, kW1, nW1, kW2, nW2, kW3, nW3, -⟩ := id hWt
  have hB := h.2.2.2.2.1 p hp
  obtain ⟨⟨pk0, pr1, pr2, pr4, pr6, ppid⟩, ⟨pk1, pn1, pz1⟩, hmb, hts⟩ := id (h.2.2.2.1 p hp)
  have h02 : az_b Z 1 p ≠ 2 := by omega
  have hta := hx.tm (j := ja) hp hja
  have htb := hx.tm (j := jb) hp hjb
  have htc := hx.tm (j := jc) hp hjc
  have hwa := hI.rg hp hja
  have hwb := hI.rg hp hjb
  have hwc := hI.rg hp hjc
  have hla := hwa.len
  have hlb := hwb.len
  have hlc := hwc.len
  have kta := hta.1.1
  have ktb := htb.1.1
  have ktc := htc.1.1
  generalize hQ9 : pm_xi (wQ Z Y E p W) = Q9
  refine pm_aload dX6_doWord_199 rfl ?_
  refine pm_iconst (v := 1) dX6_doWord_201 (by decide) ?_
  refine pm_iload dX6_doWord_202 rfl ?_
  refine pm_bipush (v := 100) dX6_doWord_204 (by decide) ?_
  refine pm_ssi (c_J9_floorMod G l bs b 100 _ (by decide) (by decide)) pm_y_J9_floorMod_7cf53 pm_s_J9_floorMod_7cf53 pm_m_X6_161 dX6_doWord_206 rfl rfl (by decide) (Nat.le_of_ble_eq_true rfl) (fun x206 S206 h206 => ?_)
  obtain ⟨rfl, rfl⟩ := h206
  refine pm_ssi (c_X6_give G l bs (Y.1 (pq p (10 + ja))) (Y.1 (pq p (20 + ja))) 1 (nI (pm_mod b 100)) _ hta.1) pm_y_X6_give pm_s_X6_give pm_m_X6_213 dX6_doWord_209 rfl rfl (by decide) (Nat.le_of_ble_eq_true rfl) (fun x209 S209 h209 => ?_)
  obtain ⟨rfl, f, t⟩ := h209
  subst hQ9
  refine pm_iret dX6_doWord_212 ?_
  subst hW
  exact wok yLe.rf (hx.rg hn hp hja f t)

set_option maxHeartbeats 4000000 in
set_option maxRecDepth 100000 in
theorem w_3 (G : pm_G) (l : Launch) (bs : Nat) (Z : az) (Y : pm_Y) (E : pm_S) (s : Nat) (p ja jb jc : Nat) (a b c : Int32) (vo : Value) (W : az) (S : pm_S) (hx : pm_CX Z S Y E) (hI : zI s Z) (hp : p < az_a Z 0) (h0 : az_b Z 1 p = 0) (hja : ja < 8) (hjb : jb < 8) (hjc : jc < 8) (hW : zs_t Z 0 p ja (az_t Z 0 p jb) = W) : pm_W G l bs yX6_doWord.cls cX6_doWord 9 false 6 (zU W - zU Z) (49 * (zU W - zU Z)) (pm_xi (wQ Z Y E p W)) 213 [.ref (Y.1 0), .ref (Y.1 (pq p 0)), vo, .int a, .int b, .int c, .ref (Y.1 (pq p (10 + ja))), .ref (Y.1 (pq p (10 + jb))), .ref (Y.1 (pq p (10 + jc)))] [] S := by
  have hn := hI.1
  have hsm := hI.sm
  obtain ⟨h, hmk⟩ := id hx
  have hA := h.2.2.2.2.2.1
  obtain ⟨⟨hk0, hr0, hr1, hr2, hr3, hr4, hr5, hr6, hr7⟩, ⟨hk1, hl1⟩, ⟨hk2, hl2⟩, ⟨hk3, hl3⟩, ⟨hk4, hl4⟩, hWt, hSh, hLt, hCs⟩ := id h.2.2.1
  obtain ⟨kW, rW1, rW2, rW3, kW1, nW1, kW2, nW2, kW3, nW3, -⟩ := id hWt
  have hB := h.2.2.2.2.1 p hp
  obtain ⟨⟨pk0, pr1, pr2, pr4, pr6, ppid⟩, ⟨pk1, pn1, pz1⟩, hmb, hts⟩ := id (h.2.2.2.1 p hp)
  have h02 : az_b Z 1 p ≠ 2 := by omega
  have hta := hx.tm (j := ja) hp hja
  have htb := hx.tm (j := jb) hp hjb
  have htc := hx.tm (j := jc) hp hjc
  have hwa := hI.rg hp hja
  have hwb := hI.rg hp hjb
  have hwc := hI.rg hp hjc
  have hla := hwa.len
  have hlb := hwb.len
  have hlc := hwc.len
  have kta := hta.1.1
  have ktb := htb.1.1
  have ktc := htc.1.1
  generalize hQ9 : pm_xi (wQ Z Y E p W) = Q9
  refine pm_aload dX6_doWord_213 rfl ?_
  refine pm_aload dX6_doWord_215 rfl ?_
  refine pm_ssi (c_X6_giveCopy G l bs (Y.1 (pq p (10 + ja))) (Y.1 (pq p (20 + ja))) (Y.1 (pq p (10 + jb))) (Y.1 (pq p (20 + jb))) (az_t Z 0 p jb) _ hta.1 htb) pm_y_X6_giveCopy pm_s_X6_giveCopy pm_m_X6_217 dX6_doWord_217 rfl rfl (by decide) (Nat.le_of_ble_eq_true rfl) (fun x217 S217 h217 => ?_)
  obtain ⟨rfl, f, t⟩ := h217
  subst hQ9
  refine pm_iret dX6_doWord_220 ?_
  subst hW
  exact wok yLe.rf (hx.rg hn hp hja f t)

set_option maxHeartbeats 4000000 in
set_option maxRecDepth 100000 in
theorem w_4 (G : pm_G) (l : Launch) (bs : Nat) (Z : az) (Y : pm_Y) (E : pm_S) (s : Nat) (p ja jb jc : Nat) (a b c : Int32) (vo : Value) (W : az) (S : pm_S) (hx : pm_CX Z S Y E) (hI : zI s Z) (hp : p < az_a Z 0) (h0 : az_b Z 1 p = 0) (hja : ja < 8) (hjb : jb < 8) (hjc : jc < 8) (hW : (if zKind (az_t Z 0 p jb) = 0 ∧ zKind (az_t Z 0 p jc) = 0 then zs_t Z 0 p ja [0, zVal (az_t Z 0 p jb) + zVal (az_t Z 0 p jc)] else zBad Z p) = W) : pm_W G l bs yX6_doWord.cls cX6_doWord 9 false 6 (zU W - zU Z) (49 * (zU W - zU Z)) (pm_xi (wQ Z Y E p W)) 221 [.ref (Y.1 0), .ref (Y.1 (pq p 0)), vo, .int a, .int b, .int c, .ref (Y.1 (pq p (10 + ja))), .ref (Y.1 (pq p (10 + jb))), .ref (Y.1 (pq p (10 + jc)))] [] S := by
  have hn := hI.1
  have hsm := hI.sm
  obtain ⟨h, hmk⟩ := id hx
  have hA := h.2.2.2.2.2.1
  obtain ⟨⟨hk0, hr0, hr1, hr2, hr3, hr4, hr5, hr6, hr7⟩, ⟨hk1, hl1⟩, ⟨hk2, hl2⟩, ⟨hk3, hl3⟩, ⟨hk4, hl4⟩, hWt, hSh, hLt, hCs⟩ := id h.2.2.1
  obtain ⟨kW, rW1, rW2, rW3, kW1, nW1, kW2, nW2, kW3, nW3, -⟩ := id hWt
  have hB := h.2.2.2.2.1 p hp
  obtain ⟨⟨pk0, pr1, pr2, pr4, pr6, ppid⟩, ⟨pk1, pn1, pz1⟩, hmb, hts⟩ := id (h.2.2.2.1 p hp)
  have h02 : az_b Z 1 p ≠ 2 := by omega
  have hta := hx.tm (j := ja) hp hja
  have htb := hx.tm (j := jb) hp hjb
  have htc := hx.tm (j := jc) hp hjc
  have hwa := hI.rg hp hja
  have hwb := hI.rg hp hjb
  have hwc := hI.rg hp hjc
  have hla := hwa.len
  have hlb := hwb.len
  have hlc := hwc.len
  have kta := hta.1.1
  have ktb := htb.1.1
  have ktc := htc.1.1
  generalize hQ9 : pm_xi (wQ Z Y E p W) = Q9
  refine pm_aload dX6_doWord_221 rfl ?_
  refine pm_aload dX6_doWord_223 rfl ?_
  refine pm_ssi (c_X6_areNumbers G l bs (Y.1 (pq p (10 + jb))) (Y.1 (pq p (20 + jb))) (Y.1 (pq p (10 + jc))) (Y.1 (pq p (20 + jc))) (az_t Z 0 p jb) (az_t Z 0 p jc) _ htb hlb.1 htc hlc.1) pm_y_X6_areNumbers pm_s_X6_areNumbers pm_m_X6_221 dX6_doWord_225 rfl rfl (by decide) (Nat.le_of_ble_eq_true rfl) (fun x225 S225 h225 => ?_)
  obtain ⟨rfl, rfl⟩ := h225
  refine pm_if_eq (tgt := 251) dX6_doWord_228 (by decide) (fun h228 => ?_) (fun h228 => ?_)
  · skip
    have hk : ¬ (zKind (az_t Z 0 p jb) = 0 ∧ zKind (az_t Z 0 p jc) = 0) := fun z => by rw [if_pos z] at h228; cases h228
    refine pm_iconst (v := 4) dX6_doWord_251 (by decide) ?_
    subst hQ9
    refine pm_iret dX6_doWord_252 ?_
    first
    | exact wbad hx (by rw [← hW, if_neg hk])
    | (rw [if_pos hk] at hW; subst hW; exact wok yLe.rf (hx.rg hn hp hja f t))
  · skip
    have hk : zKind (az_t Z 0 p jb) = 0 ∧ zKind (az_t Z 0 p jc) = 0 := Classical.byContradiction (fun z => h228 (if_neg z))
    refine pm_aload dX6_doWord_231 rfl ?_
    refine pm_iconst (v := 0) dX6_doWord_233 (by decide) ?_
    refine pm_aload dX6_doWord_234 rfl ?_
    refine pm_vi (c_X3_value G l bs (Y.1 (pq p (10 + jb))) (Y.1 (pq p (20 + jb))) (az_t Z 0 p jb) _ htb (by omega)) pm_y_X3_value pm_v_X3_value pm_m_X6_170 (c := 3) (r := (RX3, TX3, 2)) rfl rfl (by (try simp only [pm_k_si, pm_k_sj, pm_k_sp, pm_k_sx, pm_k_sz, pm_k_sr, pm_k_sy]); assumption) dX6_doWord_236 rfl rfl (by decide) (Nat.le_of_ble_eq_true rfl) (fun x236 S236 h236 => ?_)
    obtain ⟨e1, rfl⟩ := h236
    obtain rfl := val_of e1
    refine pm_aload dX6_doWord_239 rfl ?_
    refine pm_vi (c_X3_value G l bs (Y.1 (pq p (10 + jc))) (Y.1 (pq p (20 + jc))) (az_t Z 0 p jc) _ htc (by omega)) pm_y_X3_value pm_v_X3_value pm_m_X6_170 (c := 3) (r := (RX3, TX3, 2)) rfl rfl (by (try simp only [pm_k_si, pm_k_sj, pm_k_sp, pm_k_sx, pm_k_sz, pm_k_sr, pm_k_sy]); assumption) dX6_doWord_241 rfl rfl (by decide) (Nat.le_of_ble_eq_true rfl) (fun x241 S241 h241 => ?_)
    obtain ⟨e2, rfl⟩ := h241
    obtain rfl := val_of e2
    refine pm_iadd dX6_doWord_244 ?_
    refine pm_ssi (c_X6_give G l bs (Y.1 (pq p (10 + ja))) (Y.1 (pq p (20 + ja))) 0 (zVal (az_t Z 0 p jb) + zVal (az_t Z 0 p jc)) _ hta.1) pm_y_X6_give pm_s_X6_give pm_m_X6_213 dX6_doWord_245 rfl rfl (by decide) (Nat.le_of_ble_eq_true rfl) (fun x245 S245 h245 => ?_)
    obtain ⟨rfl, f, t⟩ := h245
    refine pm_goto (tgt := 252) dX6_doWord_248 (by decide) ?_
    subst hQ9
    refine pm_iret dX6_doWord_252 ?_
    first
    | exact wbad hx (by rw [← hW, if_neg hk])
    | (rw [if_pos hk] at hW; subst hW; exact wok yLe.rf (hx.rg hn hp hja f t))

set_option maxHeartbeats 4000000 in
set_option maxRecDepth 100000 in
theorem w_5 (G : pm_G) (l : Launch) (bs : Nat) (Z : az) (Y : pm_Y) (E : pm_S) (s : Nat) (p ja jb jc : Nat) (a b c : Int32) (vo : Value) (W : az) (S : pm_S) (hx : pm_CX Z S Y E) (hI : zI s Z) (hp : p < az_a Z 0) (h0 : az_b Z 1 p = 0) (hja : ja < 8) (hjb : jb < 8) (hjc : jc < 8) (hW : (if zKind (az_t Z 0 p jb) = 0 ∧ zKind (az_t Z 0 p jc) = 0 then zs_t Z 0 p ja [0, zVal (az_t Z 0 p jb) - zVal (az_t Z 0 p jc)] else zBad Z p) = W) : pm_W G l bs yX6_doWord.cls cX6_doWord 9 false 6 (zU W - zU Z) (49 * (zU W - zU Z)) (pm_xi (wQ Z Y E p W)) 253 [.ref (Y.1 0), .ref (Y.1 (pq p 0)), vo, .int a, .int b, .int c, .ref (Y.1 (pq p (10 + ja))), .ref (Y.1 (pq p (10 + jb))), .ref (Y.1 (pq p (10 + jc)))] [] S := by
  have hn := hI.1
  have hsm := hI.sm
  obtain ⟨h, hmk⟩ := id hx
  have hA := h.2.2.2.2.2.1
  obtain ⟨⟨hk0, hr0, hr1, hr2, hr3, hr4, hr5, hr6, hr7⟩, ⟨hk1, hl1⟩, ⟨hk2, hl2⟩, ⟨hk3, hl3⟩, ⟨hk4, hl4⟩, hWt, hSh, hLt, hCs⟩ := id h.2.2.1
  obtain ⟨kW, rW1, rW2, rW3, kW1, nW1, kW2, nW2, kW3, nW3, -⟩ := id hWt
  have hB := h.2.2.2.2.1 p hp
  obtain ⟨⟨pk0, pr1, pr2, pr4, pr6, ppid⟩, ⟨pk1, pn1, pz1⟩, hmb, hts⟩ := id (h.2.2.2.1 p hp)
  have h02 : az_b Z 1 p ≠ 2 := by omega
  have hta := hx.tm (j := ja) hp hja
  have htb := hx.tm (j := jb) hp hjb
  have htc := hx.tm (j := jc) hp hjc
  have hwa := hI.rg hp hja
  have hwb := hI.rg hp hjb
  have hwc := hI.rg hp hjc
  have hla := hwa.len
  have hlb := hwb.len
  have hlc := hwc.len
  have kta := hta.1.1
  have ktb := htb.1.1
  have ktc := htc.1.1
  generalize hQ9 : pm_xi (wQ Z Y E p W) = Q9
  refine pm_aload dX6_doWord_253 rfl ?_
  refine pm_aload dX6_doWord_255 rfl ?_
  refine pm_ssi (c_X6_areNumbers G l bs (Y.1 (pq p (10 + jb))) (Y.1 (pq p (20 + jb))) (Y.1 (pq p (10 + jc))) (Y.1 (pq p (20 + jc))) (az_t Z 0 p jb) (az_t Z 0 p jc) _ htb hlb.1 htc hlc.1) pm_y_X6_areNumbers pm_s_X6_areNumbers pm_m_X6_221 dX6_doWord_257 rfl rfl (by decide) (Nat.le_of_ble_eq_true rfl) (fun x257 S257 h257 => ?_)
  obtain ⟨rfl, rfl⟩ := h257
  refine pm_if_eq (tgt := 283) dX6_doWord_260 (by decide) (fun h260 => ?_) (fun h260 => ?_)
  · skip
    have hk : ¬ (zKind (az_t Z 0 p jb) = 0 ∧ zKind (az_t Z 0 p jc) = 0) := fun z => by rw [if_pos z] at h260; cases h260
    refine pm_iconst (v := 4) dX6_doWord_283 (by decide) ?_
    subst hQ9
    refine pm_iret dX6_doWord_284 ?_
    first
    | exact wbad hx (by rw [← hW, if_neg hk])
    | (rw [if_pos hk] at hW; subst hW; exact wok yLe.rf (hx.rg hn hp hja f t))
  · skip
    have hk : zKind (az_t Z 0 p jb) = 0 ∧ zKind (az_t Z 0 p jc) = 0 := Classical.byContradiction (fun z => h260 (if_neg z))
    refine pm_aload dX6_doWord_263 rfl ?_
    refine pm_iconst (v := 0) dX6_doWord_265 (by decide) ?_
    refine pm_aload dX6_doWord_266 rfl ?_
    refine pm_vi (c_X3_value G l bs (Y.1 (pq p (10 + jb))) (Y.1 (pq p (20 + jb))) (az_t Z 0 p jb) _ htb (by omega)) pm_y_X3_value pm_v_X3_value pm_m_X6_170 (c := 3) (r := (RX3, TX3, 2)) rfl rfl (by (try simp only [pm_k_si, pm_k_sj, pm_k_sp, pm_k_sx, pm_k_sz, pm_k_sr, pm_k_sy]); assumption) dX6_doWord_268 rfl rfl (by decide) (Nat.le_of_ble_eq_true rfl) (fun x268 S268 h268 => ?_)
    obtain ⟨e1, rfl⟩ := h268
    obtain rfl := val_of e1
    refine pm_aload dX6_doWord_271 rfl ?_
    refine pm_vi (c_X3_value G l bs (Y.1 (pq p (10 + jc))) (Y.1 (pq p (20 + jc))) (az_t Z 0 p jc) _ htc (by omega)) pm_y_X3_value pm_v_X3_value pm_m_X6_170 (c := 3) (r := (RX3, TX3, 2)) rfl rfl (by (try simp only [pm_k_si, pm_k_sj, pm_k_sp, pm_k_sx, pm_k_sz, pm_k_sr, pm_k_sy]); assumption) dX6_doWord_273 rfl rfl (by decide) (Nat.le_of_ble_eq_true rfl) (fun x273 S273 h273 => ?_)
    obtain ⟨e2, rfl⟩ := h273
    obtain rfl := val_of e2
    refine pm_isub dX6_doWord_276 ?_
    refine pm_ssi (c_X6_give G l bs (Y.1 (pq p (10 + ja))) (Y.1 (pq p (20 + ja))) 0 (zVal (az_t Z 0 p jb) - zVal (az_t Z 0 p jc)) _ hta.1) pm_y_X6_give pm_s_X6_give pm_m_X6_213 dX6_doWord_277 rfl rfl (by decide) (Nat.le_of_ble_eq_true rfl) (fun x277 S277 h277 => ?_)
    obtain ⟨rfl, f, t⟩ := h277
    refine pm_goto (tgt := 284) dX6_doWord_280 (by decide) ?_
    subst hQ9
    refine pm_iret dX6_doWord_284 ?_
    first
    | exact wbad hx (by rw [← hW, if_neg hk])
    | (rw [if_pos hk] at hW; subst hW; exact wok yLe.rf (hx.rg hn hp hja f t))

set_option maxHeartbeats 4000000 in
set_option maxRecDepth 100000 in
theorem w_6 (G : pm_G) (l : Launch) (bs : Nat) (Z : az) (Y : pm_Y) (E : pm_S) (s : Nat) (p ja jb jc : Nat) (a b c : Int32) (vo : Value) (W : az) (S : pm_S) (hx : pm_CX Z S Y E) (hI : zI s Z) (hp : p < az_a Z 0) (h0 : az_b Z 1 p = 0) (hja : ja < 8) (hjb : jb < 8) (hjc : jc < 8) (hW : (if zKind (az_t Z 0 p jb) = 0 ∧ zKind (az_t Z 0 p jc) = 0 then zs_t Z 0 p ja [0, zVal (az_t Z 0 p jb) * zVal (az_t Z 0 p jc)] else zBad Z p) = W) : pm_W G l bs yX6_doWord.cls cX6_doWord 9 false 6 (zU W - zU Z) (49 * (zU W - zU Z)) (pm_xi (wQ Z Y E p W)) 285 [.ref (Y.1 0), .ref (Y.1 (pq p 0)), vo, .int a, .int b, .int c, .ref (Y.1 (pq p (10 + ja))), .ref (Y.1 (pq p (10 + jb))), .ref (Y.1 (pq p (10 + jc)))] [] S := by
  have hn := hI.1
  have hsm := hI.sm
  obtain ⟨h, hmk⟩ := id hx
  have hA := h.2.2.2.2.2.1
  obtain ⟨⟨hk0, hr0, hr1, hr2, hr3, hr4, hr5, hr6, hr7⟩, ⟨hk1, hl1⟩, ⟨hk2, hl2⟩, ⟨hk3, hl3⟩, ⟨hk4, hl4⟩, hWt, hSh, hLt, hCs⟩ := id h.2.2.1
  obtain ⟨kW, rW1, rW2, rW3, kW1, nW1, kW2, nW2, kW3, nW3, -⟩ := id hWt
  have hB := h.2.2.2.2.1 p hp
  obtain ⟨⟨pk0, pr1, pr2, pr4, pr6, ppid⟩, ⟨pk1, pn1, pz1⟩, hmb, hts⟩ := id (h.2.2.2.1 p hp)
  have h02 : az_b Z 1 p ≠ 2 := by omega
  have hta := hx.tm (j := ja) hp hja
  have htb := hx.tm (j := jb) hp hjb
  have htc := hx.tm (j := jc) hp hjc
  have hwa := hI.rg hp hja
  have hwb := hI.rg hp hjb
  have hwc := hI.rg hp hjc
  have hla := hwa.len
  have hlb := hwb.len
  have hlc := hwc.len
  have kta := hta.1.1
  have ktb := htb.1.1
  have ktc := htc.1.1
  generalize hQ9 : pm_xi (wQ Z Y E p W) = Q9
  refine pm_aload dX6_doWord_285 rfl ?_
  refine pm_aload dX6_doWord_287 rfl ?_
  refine pm_ssi (c_X6_areNumbers G l bs (Y.1 (pq p (10 + jb))) (Y.1 (pq p (20 + jb))) (Y.1 (pq p (10 + jc))) (Y.1 (pq p (20 + jc))) (az_t Z 0 p jb) (az_t Z 0 p jc) _ htb hlb.1 htc hlc.1) pm_y_X6_areNumbers pm_s_X6_areNumbers pm_m_X6_221 dX6_doWord_289 rfl rfl (by decide) (Nat.le_of_ble_eq_true rfl) (fun x289 S289 h289 => ?_)
  obtain ⟨rfl, rfl⟩ := h289
  refine pm_if_eq (tgt := 315) dX6_doWord_292 (by decide) (fun h292 => ?_) (fun h292 => ?_)
  · skip
    have hk : ¬ (zKind (az_t Z 0 p jb) = 0 ∧ zKind (az_t Z 0 p jc) = 0) := fun z => by rw [if_pos z] at h292; cases h292
    refine pm_iconst (v := 4) dX6_doWord_315 (by decide) ?_
    subst hQ9
    refine pm_iret dX6_doWord_316 ?_
    first
    | exact wbad hx (by rw [← hW, if_neg hk])
    | (rw [if_pos hk] at hW; subst hW; exact wok yLe.rf (hx.rg hn hp hja f t))
  · skip
    have hk : zKind (az_t Z 0 p jb) = 0 ∧ zKind (az_t Z 0 p jc) = 0 := Classical.byContradiction (fun z => h292 (if_neg z))
    refine pm_aload dX6_doWord_295 rfl ?_
    refine pm_iconst (v := 0) dX6_doWord_297 (by decide) ?_
    refine pm_aload dX6_doWord_298 rfl ?_
    refine pm_vi (c_X3_value G l bs (Y.1 (pq p (10 + jb))) (Y.1 (pq p (20 + jb))) (az_t Z 0 p jb) _ htb (by omega)) pm_y_X3_value pm_v_X3_value pm_m_X6_170 (c := 3) (r := (RX3, TX3, 2)) rfl rfl (by (try simp only [pm_k_si, pm_k_sj, pm_k_sp, pm_k_sx, pm_k_sz, pm_k_sr, pm_k_sy]); assumption) dX6_doWord_300 rfl rfl (by decide) (Nat.le_of_ble_eq_true rfl) (fun x300 S300 h300 => ?_)
    obtain ⟨e1, rfl⟩ := h300
    obtain rfl := val_of e1
    refine pm_aload dX6_doWord_303 rfl ?_
    refine pm_vi (c_X3_value G l bs (Y.1 (pq p (10 + jc))) (Y.1 (pq p (20 + jc))) (az_t Z 0 p jc) _ htc (by omega)) pm_y_X3_value pm_v_X3_value pm_m_X6_170 (c := 3) (r := (RX3, TX3, 2)) rfl rfl (by (try simp only [pm_k_si, pm_k_sj, pm_k_sp, pm_k_sx, pm_k_sz, pm_k_sr, pm_k_sy]); assumption) dX6_doWord_305 rfl rfl (by decide) (Nat.le_of_ble_eq_true rfl) (fun x305 S305 h305 => ?_)
    obtain ⟨e2, rfl⟩ := h305
    obtain rfl := val_of e2
    refine pm_imul dX6_doWord_308 ?_
    refine pm_ssi (c_X6_give G l bs (Y.1 (pq p (10 + ja))) (Y.1 (pq p (20 + ja))) 0 (zVal (az_t Z 0 p jb) * zVal (az_t Z 0 p jc)) _ hta.1) pm_y_X6_give pm_s_X6_give pm_m_X6_213 dX6_doWord_309 rfl rfl (by decide) (Nat.le_of_ble_eq_true rfl) (fun x309 S309 h309 => ?_)
    obtain ⟨rfl, f, t⟩ := h309
    refine pm_goto (tgt := 316) dX6_doWord_312 (by decide) ?_
    subst hQ9
    refine pm_iret dX6_doWord_316 ?_
    first
    | exact wbad hx (by rw [← hW, if_neg hk])
    | (rw [if_pos hk] at hW; subst hW; exact wok yLe.rf (hx.rg hn hp hja f t))

set_option maxHeartbeats 4000000 in
set_option maxRecDepth 100000 in
theorem w_7 (G : pm_G) (l : Launch) (bs : Nat) (Z : az) (Y : pm_Y) (E : pm_S) (s : Nat) (p ja jb jc : Nat) (a b c : Int32) (vo : Value) (W : az) (S : pm_S) (hx : pm_CX Z S Y E) (hI : zI s Z) (hp : p < az_a Z 0) (h0 : az_b Z 1 p = 0) (hja : ja < 8) (hjb : jb < 8) (hjc : jc < 8) (hW : (if 1 + (az_t Z 0 p jb).length + (az_t Z 0 p jc).length ≤ 95 then zs_t Z 0 p ja (-1 :: ((az_t Z 0 p jb) ++ (az_t Z 0 p jc))) else zLim Z p) = W) : pm_W G l bs yX6_doWord.cls cX6_doWord 9 false 6 (zU W - zU Z) (49 * (zU W - zU Z)) (pm_xi (wQ Z Y E p W)) 317 [.ref (Y.1 0), .ref (Y.1 (pq p 0)), vo, .int a, .int b, .int c, .ref (Y.1 (pq p (10 + ja))), .ref (Y.1 (pq p (10 + jb))), .ref (Y.1 (pq p (10 + jc)))] [] S := by
  have hn := hI.1
  have hsm := hI.sm
  obtain ⟨h, hmk⟩ := id hx
  have hA := h.2.2.2.2.2.1
  obtain ⟨⟨hk0, hr0, hr1, hr2, hr3, hr4, hr5, hr6, hr7⟩, ⟨hk1, hl1⟩, ⟨hk2, hl2⟩, ⟨hk3, hl3⟩, ⟨hk4, hl4⟩, hWt, hSh, hLt, hCs⟩ := id h.2.2.1
  obtain ⟨kW, rW1, rW2, rW3, kW1, nW1, kW2, nW2, kW3, nW3, -⟩ := id hWt
  have hB := h.2.2.2.2.1 p hp
  obtain ⟨⟨pk0, pr1, pr2, pr4, pr6, ppid⟩, ⟨pk1, pn1, pz1⟩, hmb, hts⟩ := id (h.2.2.2.1 p hp)
  have h02 : az_b Z 1 p ≠ 2 := by omega
  have hta := hx.tm (j := ja) hp hja
  have htb := hx.tm (j := jb) hp hjb
  have htc := hx.tm (j := jc) hp hjc
  have hwa := hI.rg hp hja
  have hwb := hI.rg hp hjb
  have hwc := hI.rg hp hjc
  have hla := hwa.len
  have hlb := hwb.len
  have hlc := hwc.len
  have kta := hta.1.1
  have ktb := htb.1.1
  have ktc := htc.1.1
  generalize hQ9 : pm_xi (wQ Z Y E p W) = Q9
  refine pm_aload dX6_doWord_317 rfl ?_
  refine pm_aload dX6_doWord_319 rfl ?_
  refine pm_aload dX6_doWord_321 rfl ?_
  refine pm_vi (c_X3_setPair G l bs (Y.1 (pq p (10 + ja))) (Y.1 (pq p (20 + ja))) (Y.1 (pq p (10 + jb))) (Y.1 (pq p (20 + jb))) (Y.1 (pq p (10 + jc))) (Y.1 (pq p (20 + jc))) (az_t Z 0 p jb) (az_t Z 0 p jc) _ hta.1 htb htc) pm_y_X3_setPair pm_v_X3_setPair pm_m_X6_225 (c := 3) (r := (RX3, TX3, 2)) rfl rfl (by (try simp only [pm_k_si, pm_k_sj, pm_k_sp, pm_k_sx, pm_k_sz, pm_k_sr, pm_k_sy]); assumption) dX6_doWord_323 rfl rfl (by decide) (Nat.le_of_ble_eq_true rfl) (fun x323 S323 h323 => ?_)
  refine pm_if_eq (tgt := 333) dX6_doWord_326 (by decide) (fun h326 => ?_) (fun h326 => ?_)
  · skip
    rcases h323 with ⟨hl, -, rfl⟩ | ⟨-, e, -⟩
    case inr => rw [e] at h326; cases h326
    refine pm_iconst (v := 5) dX6_doWord_333 (by decide) ?_
    subst hQ9
    refine pm_iret dX6_doWord_334 ?_
    first
    | exact wlim hx (by rw [← hW, if_neg (by omega)])
    | (rw [if_pos hl] at hW; subst hW; exact wok yLe.rf (hx.rg hn hp hja f t))
  · skip
    rcases h323 with ⟨-, e, -⟩ | ⟨hl, -, f, t⟩
    case inl => exact absurd e h326
    refine pm_iconst (v := (-1)) dX6_doWord_329 (by decide) ?_
    refine pm_goto (tgt := 334) dX6_doWord_330 (by decide) ?_
    subst hQ9
    refine pm_iret dX6_doWord_334 ?_
    first
    | exact wlim hx (by rw [← hW, if_neg (by omega)])
    | (rw [if_pos hl] at hW; subst hW; exact wok yLe.rf (hx.rg hn hp hja f t))

set_option maxHeartbeats 4000000 in
set_option maxRecDepth 100000 in
theorem w_8b (G : pm_G) (l : Launch) (bs : Nat) (Z : az) (Y : pm_Y) (E : pm_S) (s : Nat) (p ja jb jc : Nat) (a b c : Int32) (vo : Value) (W : az) (S : pm_S) (hx : pm_CX Z S Y E) (hI : zI s Z) (hp : p < az_a Z 0) (h0 : az_b Z 1 p = 0) (hja : ja < 8) (hjb : jb < 8) (hjc : jc < 8) (hk : ¬ zKind (az_t Z 0 p jb) = 3) (hW : zBad Z p = W) : pm_W G l bs yX6_doWord.cls cX6_doWord 9 false 6 (zU W - zU Z) (49 * (zU W - zU Z)) (pm_xi (wQ Z Y E p W)) 335 [.ref (Y.1 0), .ref (Y.1 (pq p 0)), vo, .int a, .int b, .int c, .ref (Y.1 (pq p (10 + ja))), .ref (Y.1 (pq p (10 + jb))), .ref (Y.1 (pq p (10 + jc)))] [] S := by
  have hn := hI.1
  have hsm := hI.sm
  obtain ⟨h, hmk⟩ := id hx
  have hA := h.2.2.2.2.2.1
  obtain ⟨⟨hk0, hr0, hr1, hr2, hr3, hr4, hr5, hr6, hr7⟩, ⟨hk1, hl1⟩, ⟨hk2, hl2⟩, ⟨hk3, hl3⟩, ⟨hk4, hl4⟩, hWt, hSh, hLt, hCs⟩ := id h.2.2.1
  obtain ⟨kW, rW1, rW2, rW3, kW1, nW1, kW2, nW2, kW3, nW3, -⟩ := id hWt
  have hB := h.2.2.2.2.1 p hp
  obtain ⟨⟨pk0, pr1, pr2, pr4, pr6, ppid⟩, ⟨pk1, pn1, pz1⟩, hmb, hts⟩ := id (h.2.2.2.1 p hp)
  have h02 : az_b Z 1 p ≠ 2 := by omega
  have hta := hx.tm (j := ja) hp hja
  have htb := hx.tm (j := jb) hp hjb
  have htc := hx.tm (j := jc) hp hjc
  have hwa := hI.rg hp hja
  have hwb := hI.rg hp hjb
  have hwc := hI.rg hp hjc
  have hla := hwa.len
  have hlb := hwb.len
  have hlc := hwc.len
  have kta := hta.1.1
  have ktb := htb.1.1
  have ktc := htc.1.1
  generalize hQ9 : pm_xi (wQ Z Y E p W) = Q9
  refine pm_aload dX6_doWord_335 rfl ?_
  refine pm_aload dX6_doWord_337 rfl ?_
  refine pm_vi (c_X3_setFirst0 G l bs (Y.1 (pq p (10 + ja))) (Y.1 (pq p (10 + jb))) (Y.1 (pq p (20 + jb))) (az_t Z 0 p jb) _ htb (by omega) hk) pm_y_X3_setFirst pm_v_X3_setFirst pm_m_X6_228 (c := 3) (r := (RX3, TX3, 2)) rfl rfl (by (try simp only [pm_k_si, pm_k_sj, pm_k_sp, pm_k_sx, pm_k_sz, pm_k_sr, pm_k_sy]); assumption) dX6_doWord_339 rfl rfl (by decide) (Nat.le_of_ble_eq_true rfl) (fun x339 S339 h339 => ?_)
  obtain ⟨rfl, rfl⟩ := h339
  refine pm_if_eq (tgt := 349) dX6_doWord_342 (by decide) (fun h342 => ?_) (fun h342 => ?_)
  · skip
    skip
    refine pm_iconst (v := 4) dX6_doWord_349 (by decide) ?_
    subst hQ9
    refine pm_iret dX6_doWord_350 ?_
    exact wbad hx hW.symm
  · exact absurd rfl h342

set_option maxHeartbeats 4000000 in
set_option maxRecDepth 100000 in
theorem w_8a (G : pm_G) (l : Launch) (bs : Nat) (Z : az) (Y : pm_Y) (E : pm_S) (s : Nat) (p ja jb jc : Nat) (a b c : Int32) (vo : Value) (W : az) (S : pm_S) (hx : pm_CX Z S Y E) (hI : zI s Z) (hp : p < az_a Z 0) (h0 : az_b Z 1 p = 0) (hja : ja < 8) (hjb : jb < 8) (hjc : jc < 8) (hk : zKind (az_t Z 0 p jb) = 3) (hW : zs_t Z 0 p ja (zFirst (az_t Z 0 p jb)) = W) : pm_W G l bs yX6_doWord.cls cX6_doWord 9 false 6 (zU W - zU Z) (49 * (zU W - zU Z)) (pm_xi (wQ Z Y E p W)) 335 [.ref (Y.1 0), .ref (Y.1 (pq p 0)), vo, .int a, .int b, .int c, .ref (Y.1 (pq p (10 + ja))), .ref (Y.1 (pq p (10 + jb))), .ref (Y.1 (pq p (10 + jc)))] [] S := by
  have hn := hI.1
  have hsm := hI.sm
  obtain ⟨h, hmk⟩ := id hx
  have hA := h.2.2.2.2.2.1
  obtain ⟨⟨hk0, hr0, hr1, hr2, hr3, hr4, hr5, hr6, hr7⟩, ⟨hk1, hl1⟩, ⟨hk2, hl2⟩, ⟨hk3, hl3⟩, ⟨hk4, hl4⟩, hWt, hSh, hLt, hCs⟩ := id h.2.2.1
  obtain ⟨kW, rW1, rW2, rW3, kW1, nW1, kW2, nW2, kW3, nW3, -⟩ := id hWt
  have hB := h.2.2.2.2.1 p hp
  obtain ⟨⟨pk0, pr1, pr2, pr4, pr6, ppid⟩, ⟨pk1, pn1, pz1⟩, hmb, hts⟩ := id (h.2.2.2.1 p hp)
  have h02 : az_b Z 1 p ≠ 2 := by omega
  have hta := hx.tm (j := ja) hp hja
  have htb := hx.tm (j := jb) hp hjb
  have htc := hx.tm (j := jc) hp hjc
  have hwa := hI.rg hp hja
  have hwb := hI.rg hp hjb
  have hwc := hI.rg hp hjc
  have hla := hwa.len
  have hlb := hwb.len
  have hlc := hwc.len
  have kta := hta.1.1
  have ktb := htb.1.1
  have ktc := htc.1.1
  generalize hQ9 : pm_xi (wQ Z Y E p W) = Q9
  refine pm_aload dX6_doWord_335 rfl ?_
  refine pm_aload dX6_doWord_337 rfl ?_
  refine pm_vi (c_X3_setFirst G l bs (Y.1 (pq p (10 + ja))) (Y.1 (pq p (20 + ja))) (Y.1 (pq p (10 + jb))) (Y.1 (pq p (20 + jb))) (az_t Z 0 p jb) _ hta.1 htb (by omega) hwb.getK (hwb.parts hk).2.2) pm_y_X3_setFirst pm_v_X3_setFirst pm_m_X6_228 (c := 3) (r := (RX3, TX3, 2)) rfl rfl (by (try simp only [pm_k_si, pm_k_sj, pm_k_sp, pm_k_sx, pm_k_sz, pm_k_sr, pm_k_sy]); assumption) dX6_doWord_339 rfl rfl (by decide) (Nat.le_of_ble_eq_true rfl) (fun x339 S339 h339 => ?_)
  have hk2 : (az_t Z 0 p jb)[0]? = some (-1 : Int32) := by
    obtain ⟨l9, e9⟩ := hwb.k3.mp hk
    rw [e9]; rfl
  rcases h339 with ⟨e, -⟩ | ⟨-, rfl, f, t⟩
  case inl => exact absurd hk2 e
  refine pm_if_eq (tgt := 349) dX6_doWord_342 (by decide) (fun h342 => ?_) (fun h342 => ?_)
  · exact absurd h342 (by decide)
  · skip
    skip
    refine pm_iconst (v := (-1)) dX6_doWord_345 (by decide) ?_
    refine pm_goto (tgt := 350) dX6_doWord_346 (by decide) ?_
    subst hQ9
    refine pm_iret dX6_doWord_350 ?_
    subst hW
    exact wok yLe.rf (hx.rg hn hp hja f t)

set_option maxHeartbeats 4000000 in
set_option maxRecDepth 100000 in
theorem w_9b (G : pm_G) (l : Launch) (bs : Nat) (Z : az) (Y : pm_Y) (E : pm_S) (s : Nat) (p ja jb jc : Nat) (a b c : Int32) (vo : Value) (W : az) (S : pm_S) (hx : pm_CX Z S Y E) (hI : zI s Z) (hp : p < az_a Z 0) (h0 : az_b Z 1 p = 0) (hja : ja < 8) (hjb : jb < 8) (hjc : jc < 8) (hk : ¬ zKind (az_t Z 0 p jb) = 3) (hW : zBad Z p = W) : pm_W G l bs yX6_doWord.cls cX6_doWord 9 false 6 (zU W - zU Z) (49 * (zU W - zU Z)) (pm_xi (wQ Z Y E p W)) 351 [.ref (Y.1 0), .ref (Y.1 (pq p 0)), vo, .int a, .int b, .int c, .ref (Y.1 (pq p (10 + ja))), .ref (Y.1 (pq p (10 + jb))), .ref (Y.1 (pq p (10 + jc)))] [] S := by
  have hn := hI.1
  have hsm := hI.sm
  obtain ⟨h, hmk⟩ := id hx
  have hA := h.2.2.2.2.2.1
  obtain ⟨⟨hk0, hr0, hr1, hr2, hr3, hr4, hr5, hr6, hr7⟩, ⟨hk1, hl1⟩, ⟨hk2, hl2⟩, ⟨hk3, hl3⟩, ⟨hk4, hl4⟩, hWt, hSh, hLt, hCs⟩ := id h.2.2.1
  obtain ⟨kW, rW1, rW2, rW3, kW1, nW1, kW2, nW2, kW3, nW3, -⟩ := id hWt
  have hB := h.2.2.2.2.1 p hp
  obtain ⟨⟨pk0, pr1, pr2, pr4, pr6, ppid⟩, ⟨pk1, pn1, pz1⟩, hmb, hts⟩ := id (h.2.2.2.1 p hp)
  have h02 : az_b Z 1 p ≠ 2 := by omega
  have hta := hx.tm (j := ja) hp hja
  have htb := hx.tm (j := jb) hp hjb
  have htc := hx.tm (j := jc) hp hjc
  have hwa := hI.rg hp hja
  have hwb := hI.rg hp hjb
  have hwc := hI.rg hp hjc
  have hla := hwa.len
  have hlb := hwb.len
  have hlc := hwc.len
  have kta := hta.1.1
  have ktb := htb.1.1
  have ktc := htc.1.1
  generalize hQ9 : pm_xi (wQ Z Y E p W) = Q9
  refine pm_aload dX6_doWord_351 rfl ?_
  refine pm_aload dX6_doWord_353 rfl ?_
  refine pm_vi (c_X3_setSecond0 G l bs (Y.1 (pq p (10 + ja))) (Y.1 (pq p (10 + jb))) (Y.1 (pq p (20 + jb))) (az_t Z 0 p jb) _ htb (by omega) hk) pm_y_X3_setSecond pm_v_X3_setSecond pm_m_X6_232 (c := 3) (r := (RX3, TX3, 2)) rfl rfl (by (try simp only [pm_k_si, pm_k_sj, pm_k_sp, pm_k_sx, pm_k_sz, pm_k_sr, pm_k_sy]); assumption) dX6_doWord_355 rfl rfl (by decide) (Nat.le_of_ble_eq_true rfl) (fun x355 S355 h355 => ?_)
  obtain ⟨rfl, rfl⟩ := h355
  refine pm_if_eq (tgt := 365) dX6_doWord_358 (by decide) (fun h358 => ?_) (fun h358 => ?_)
  · skip
    skip
    refine pm_iconst (v := 4) dX6_doWord_365 (by decide) ?_
    subst hQ9
    refine pm_iret dX6_doWord_366 ?_
    exact wbad hx hW.symm
  · exact absurd rfl h358

set_option maxHeartbeats 4000000 in
set_option maxRecDepth 100000 in
theorem w_9a (G : pm_G) (l : Launch) (bs : Nat) (Z : az) (Y : pm_Y) (E : pm_S) (s : Nat) (p ja jb jc : Nat) (a b c : Int32) (vo : Value) (W : az) (S : pm_S) (hx : pm_CX Z S Y E) (hI : zI s Z) (hp : p < az_a Z 0) (h0 : az_b Z 1 p = 0) (hja : ja < 8) (hjb : jb < 8) (hjc : jc < 8) (hk : zKind (az_t Z 0 p jb) = 3) (hW : zs_t Z 0 p ja (zSecond (az_t Z 0 p jb)) = W) : pm_W G l bs yX6_doWord.cls cX6_doWord 9 false 6 (zU W - zU Z) (49 * (zU W - zU Z)) (pm_xi (wQ Z Y E p W)) 351 [.ref (Y.1 0), .ref (Y.1 (pq p 0)), vo, .int a, .int b, .int c, .ref (Y.1 (pq p (10 + ja))), .ref (Y.1 (pq p (10 + jb))), .ref (Y.1 (pq p (10 + jc)))] [] S := by
  have hn := hI.1
  have hsm := hI.sm
  obtain ⟨h, hmk⟩ := id hx
  have hA := h.2.2.2.2.2.1
  obtain ⟨⟨hk0, hr0, hr1, hr2, hr3, hr4, hr5, hr6, hr7⟩, ⟨hk1, hl1⟩, ⟨hk2, hl2⟩, ⟨hk3, hl3⟩, ⟨hk4, hl4⟩, hWt, hSh, hLt, hCs⟩ := id h.2.2.1
  obtain ⟨kW, rW1, rW2, rW3, kW1, nW1, kW2, nW2, kW3, nW3, -⟩ := id hWt
  have hB := h.2.2.2.2.1 p hp
  obtain ⟨⟨pk0, pr1, pr2, pr4, pr6, ppid⟩, ⟨pk1, pn1, pz1⟩, hmb, hts⟩ := id (h.2.2.2.1 p hp)
  have h02 : az_b Z 1 p ≠ 2 := by omega
  have hta := hx.tm (j := ja) hp hja
  have htb := hx.tm (j := jb) hp hjb
  have htc := hx.tm (j := jc) hp hjc
  have hwa := hI.rg hp hja
  have hwb := hI.rg hp hjb
  have hwc := hI.rg hp hjc
  have hla := hwa.len
  have hlb := hwb.len
  have hlc := hwc.len
  have kta := hta.1.1
  have ktb := htb.1.1
  have ktc := htc.1.1
  generalize hQ9 : pm_xi (wQ Z Y E p W) = Q9
  refine pm_aload dX6_doWord_351 rfl ?_
  refine pm_aload dX6_doWord_353 rfl ?_
  refine pm_vi (c_X3_setSecond G l bs (Y.1 (pq p (10 + ja))) (Y.1 (pq p (20 + ja))) (Y.1 (pq p (10 + jb))) (Y.1 (pq p (20 + jb))) (az_t Z 0 p jb) _ hta.1 htb (by omega) hwb.getK (hwb.parts hk).2.2) pm_y_X3_setSecond pm_v_X3_setSecond pm_m_X6_232 (c := 3) (r := (RX3, TX3, 2)) rfl rfl (by (try simp only [pm_k_si, pm_k_sj, pm_k_sp, pm_k_sx, pm_k_sz, pm_k_sr, pm_k_sy]); assumption) dX6_doWord_355 rfl rfl (by decide) (Nat.le_of_ble_eq_true rfl) (fun x355 S355 h355 => ?_)
  have hk2 : (az_t Z 0 p jb)[0]? = some (-1 : Int32) := by
    obtain ⟨l9, e9⟩ := hwb.k3.mp hk
    rw [e9]; rfl
  rcases h355 with ⟨e, -⟩ | ⟨-, rfl, f, t⟩
  case inl => exact absurd hk2 e
  refine pm_if_eq (tgt := 365) dX6_doWord_358 (by decide) (fun h358 => ?_) (fun h358 => ?_)
  · exact absurd h358 (by decide)
  · skip
    skip
    refine pm_iconst (v := (-1)) dX6_doWord_361 (by decide) ?_
    refine pm_goto (tgt := 366) dX6_doWord_362 (by decide) ?_
    subst hQ9
    refine pm_iret dX6_doWord_366 ?_
    subst hW
    exact wok yLe.rf (hx.rg hn hp hja f t)

set_option maxHeartbeats 4000000 in
set_option maxRecDepth 100000 in
theorem w_10 (G : pm_G) (l : Launch) (bs : Nat) (Z : az) (Y : pm_Y) (E : pm_S) (s : Nat) (p ja jb jc : Nat) (a b c : Int32) (vo : Value) (W : az) (S : pm_S) (hx : pm_CX Z S Y E) (hI : zI s Z) (hp : p < az_a Z 0) (h0 : az_b Z 1 p = 0) (hja : ja < 8) (hjb : jb < 8) (hjc : jc < 8) (hW : zs_t Z 0 p ja [0, zKind (az_t Z 0 p jb)] = W) : pm_W G l bs yX6_doWord.cls cX6_doWord 9 false 6 (zU W - zU Z) (49 * (zU W - zU Z)) (pm_xi (wQ Z Y E p W)) 367 [.ref (Y.1 0), .ref (Y.1 (pq p 0)), vo, .int a, .int b, .int c, .ref (Y.1 (pq p (10 + ja))), .ref (Y.1 (pq p (10 + jb))), .ref (Y.1 (pq p (10 + jc)))] [] S := by
  have hn := hI.1
  have hsm := hI.sm
  obtain ⟨h, hmk⟩ := id hx
  have hA := h.2.2.2.2.2.1
  obtain ⟨⟨hk0, hr0, hr1, hr2, hr3, hr4, hr5, hr6, hr7⟩, ⟨hk1, hl1⟩, ⟨hk2, hl2⟩, ⟨hk3, hl3⟩, ⟨hk4, hl4⟩, hWt, hSh, hLt, hCs⟩ := id h.2.2.1
  obtain ⟨kW, rW1, rW2, rW3, kW1, nW1, kW2, nW2, kW3, nW3, -⟩ := id hWt
  have hB := h.2.2.2.2.1 p hp
  obtain ⟨⟨pk0, pr1, pr2, pr4, pr6, ppid⟩, ⟨pk1, pn1, pz1⟩, hmb, hts⟩ := id (h.2.2.2.1 p hp)
  have h02 : az_b Z 1 p ≠ 2 := by omega
  have hta := hx.tm (j := ja) hp hja
  have htb := hx.tm (j := jb) hp hjb
  have htc := hx.tm (j := jc) hp hjc
  have hwa := hI.rg hp hja
  have hwb := hI.rg hp hjb
  have hwc := hI.rg hp hjc
  have hla := hwa.len
  have hlb := hwb.len
  have hlc := hwc.len
  have kta := hta.1.1
  have ktb := htb.1.1
  have ktc := htc.1.1
  generalize hQ9 : pm_xi (wQ Z Y E p W) = Q9
  refine pm_aload dX6_doWord_367 rfl ?_
  refine pm_iconst (v := 0) dX6_doWord_369 (by decide) ?_
  refine pm_aload dX6_doWord_370 rfl ?_
  refine pm_vi (c_X3_kind G l bs (Y.1 (pq p (10 + jb))) (Y.1 (pq p (20 + jb))) (az_t Z 0 p jb) _ htb (by omega)) pm_y_X3_kind pm_v_X3_kind pm_m_X6_167 (c := 3) (r := (RX3, TX3, 2)) rfl rfl (by (try simp only [pm_k_si, pm_k_sj, pm_k_sp, pm_k_sx, pm_k_sz, pm_k_sr, pm_k_sy]); assumption) dX6_doWord_372 rfl rfl (by decide) (Nat.le_of_ble_eq_true rfl) (fun x372 S372 h372 => ?_)
  obtain ⟨e1, rfl⟩ := h372
  obtain rfl := kd_of e1
  refine pm_ssi (c_X6_give G l bs (Y.1 (pq p (10 + ja))) (Y.1 (pq p (20 + ja))) 0 (zKind (az_t Z 0 p jb)) _ hta.1) pm_y_X6_give pm_s_X6_give pm_m_X6_213 dX6_doWord_375 rfl rfl (by decide) (Nat.le_of_ble_eq_true rfl) (fun x375 S375 h375 => ?_)
  obtain ⟨rfl, f, t⟩ := h375
  subst hQ9
  refine pm_iret dX6_doWord_378 ?_
  subst hW
  exact wok yLe.rf (hx.rg hn hp hja f t)

set_option maxHeartbeats 4000000 in
set_option maxRecDepth 100000 in
theorem w_11 (G : pm_G) (l : Launch) (bs : Nat) (Z : az) (Y : pm_Y) (E : pm_S) (s : Nat) (p ja jb jc : Nat) (a b c : Int32) (vo : Value) (W : az) (S : pm_S) (hx : pm_CX Z S Y E) (hI : zI s Z) (hp : p < az_a Z 0) (h0 : az_b Z 1 p = 0) (hja : ja < 8) (hjb : jb < 8) (hjc : jc < 8) (hW : zAt Z p (pm_mod a 300) = W) : pm_W G l bs yX6_doWord.cls cX6_doWord 9 false 6 (zU W - zU Z) (49 * (zU W - zU Z)) (pm_xi (wQ Z Y E p W)) 379 [.ref (Y.1 0), .ref (Y.1 (pq p 0)), vo, .int a, .int b, .int c, .ref (Y.1 (pq p (10 + ja))), .ref (Y.1 (pq p (10 + jb))), .ref (Y.1 (pq p (10 + jc)))] [] S := by
  have hn := hI.1
  have hsm := hI.sm
  obtain ⟨h, hmk⟩ := id hx
  have hA := h.2.2.2.2.2.1
  obtain ⟨⟨hk0, hr0, hr1, hr2, hr3, hr4, hr5, hr6, hr7⟩, ⟨hk1, hl1⟩, ⟨hk2, hl2⟩, ⟨hk3, hl3⟩, ⟨hk4, hl4⟩, hWt, hSh, hLt, hCs⟩ := id h.2.2.1
  obtain ⟨kW, rW1, rW2, rW3, kW1, nW1, kW2, nW2, kW3, nW3, -⟩ := id hWt
  have hB := h.2.2.2.2.1 p hp
  obtain ⟨⟨pk0, pr1, pr2, pr4, pr6, ppid⟩, ⟨pk1, pn1, pz1⟩, hmb, hts⟩ := id (h.2.2.2.1 p hp)
  have h02 : az_b Z 1 p ≠ 2 := by omega
  have hta := hx.tm (j := ja) hp hja
  have htb := hx.tm (j := jb) hp hjb
  have htc := hx.tm (j := jc) hp hjc
  have hwa := hI.rg hp hja
  have hwb := hI.rg hp hjb
  have hwc := hI.rg hp hjc
  have hla := hwa.len
  have hlb := hwb.len
  have hlc := hwc.len
  have kta := hta.1.1
  have ktb := htb.1.1
  have ktc := htc.1.1
  generalize hQ9 : pm_xi (wQ Z Y E p W) = Q9
  refine pm_aload_n dX6_doWord_379 rfl ?_
  refine pm_iload_n dX6_doWord_380 rfl ?_
  refine pm_iconst (v := 1) dX6_doWord_381 (by decide) ?_
  refine pm_ssi (c_X6_goOn G l bs Z Y E s p a 1 _ hx hI hp) pm_y_X6_goOn pm_s_X6_goOn pm_m_X6_235 dX6_doWord_382 rfl rfl (by decide) (Nat.le_of_ble_eq_true rfl) (fun x382 S382 h382 => ?_)
  obtain ⟨rfl, hx2⟩ := h382
  rw [if_neg (by decide)] at hx2
  subst hQ9
  refine pm_iret dX6_doWord_385 ?_
  subst hW
  exact wok yLe.rf hx2

set_option maxHeartbeats 4000000 in
set_option maxRecDepth 100000 in
theorem w_12 (G : pm_G) (l : Launch) (bs : Nat) (Z : az) (Y : pm_Y) (E : pm_S) (s : Nat) (p ja jb jc : Nat) (a b c : Int32) (vo : Value) (W : az) (S : pm_S) (hx : pm_CX Z S Y E) (hI : zI s Z) (hp : p < az_a Z 0) (h0 : az_b Z 1 p = 0) (hja : ja < 8) (hjb : jb < 8) (hjc : jc < 8) (hW : (if zCmp (az_t Z 0 p jb) (az_t Z 0 p jc) = 0 then zAt Z p (pm_mod a 300) else Z) = W) : pm_W G l bs yX6_doWord.cls cX6_doWord 9 false 6 (zU W - zU Z) (49 * (zU W - zU Z)) (pm_xi (wQ Z Y E p W)) 386 [.ref (Y.1 0), .ref (Y.1 (pq p 0)), vo, .int a, .int b, .int c, .ref (Y.1 (pq p (10 + ja))), .ref (Y.1 (pq p (10 + jb))), .ref (Y.1 (pq p (10 + jc)))] [] S := by
  have hn := hI.1
  have hsm := hI.sm
  obtain ⟨h, hmk⟩ := id hx
  have hA := h.2.2.2.2.2.1
  obtain ⟨⟨hk0, hr0, hr1, hr2, hr3, hr4, hr5, hr6, hr7⟩, ⟨hk1, hl1⟩, ⟨hk2, hl2⟩, ⟨hk3, hl3⟩, ⟨hk4, hl4⟩, hWt, hSh, hLt, hCs⟩ := id h.2.2.1
  obtain ⟨kW, rW1, rW2, rW3, kW1, nW1, kW2, nW2, kW3, nW3, -⟩ := id hWt
  have hB := h.2.2.2.2.1 p hp
  obtain ⟨⟨pk0, pr1, pr2, pr4, pr6, ppid⟩, ⟨pk1, pn1, pz1⟩, hmb, hts⟩ := id (h.2.2.2.1 p hp)
  have h02 : az_b Z 1 p ≠ 2 := by omega
  have hta := hx.tm (j := ja) hp hja
  have htb := hx.tm (j := jb) hp hjb
  have htc := hx.tm (j := jc) hp hjc
  have hwa := hI.rg hp hja
  have hwb := hI.rg hp hjb
  have hwc := hI.rg hp hjc
  have hla := hwa.len
  have hlb := hwb.len
  have hlc := hwc.len
  have kta := hta.1.1
  have ktb := htb.1.1
  have ktc := htc.1.1
  generalize hQ9 : pm_xi (wQ Z Y E p W) = Q9
  refine pm_aload_n dX6_doWord_386 rfl ?_
  refine pm_iload_n dX6_doWord_387 rfl ?_
  refine pm_aload dX6_doWord_388 rfl ?_
  refine pm_aload dX6_doWord_390 rfl ?_
  refine pm_vi (c_X3_compareWith G l bs (Y.1 (pq p (10 + jb))) (Y.1 (pq p (20 + jb))) (Y.1 (pq p (10 + jc))) (Y.1 (pq p (20 + jc))) (az_t Z 0 p jb) (az_t Z 0 p jc) _ htb htc) pm_y_X3_compareWith pm_v_X3_compareWith pm_m_X6_239 (c := 3) (r := (RX3, TX3, 2)) rfl rfl (by (try simp only [pm_k_si, pm_k_sj, pm_k_sp, pm_k_sx, pm_k_sz, pm_k_sr, pm_k_sy]); assumption) dX6_doWord_392 rfl rfl (by decide) (Nat.le_of_ble_eq_true rfl) (fun x392 S392 h392 => ?_)
  obtain ⟨rfl, rfl⟩ := h392
  refine pm_if_ne (tgt := 402) dX6_doWord_395 (by decide) (fun h395 => ?_) (fun h395 => ?_)
  · skip
    have hk : ¬ (zCmp (az_t Z 0 p jb) (az_t Z 0 p jc) = 0) := h395
    rw [if_neg hk] at hW
    refine pm_iconst (v := 0) dX6_doWord_402 (by decide) ?_
    refine pm_ssi (c_X6_goOn G l bs Z Y E s p a _ _ hx hI hp) pm_y_X6_goOn pm_s_X6_goOn pm_m_X6_235 dX6_doWord_403 rfl rfl (by decide) (Nat.le_of_ble_eq_true rfl) (fun x403 S403 h403 => ?_)
    obtain ⟨rfl, hx2⟩ := h403
    subst hQ9
    refine pm_iret dX6_doWord_406 ?_
    first
    | (rw [if_neg (by decide)] at hx2; subst hW; exact wok yLe.rf hx2)
    | (rw [if_pos (by decide)] at hx2; subst hW; exact wok yLe.rf hx2)
  · skip
    have hk : zCmp (az_t Z 0 p jb) (az_t Z 0 p jc) = 0 := h395
    rw [if_pos hk] at hW
    refine pm_iconst (v := 1) dX6_doWord_398 (by decide) ?_
    refine pm_goto (tgt := 403) dX6_doWord_399 (by decide) ?_
    refine pm_ssi (c_X6_goOn G l bs Z Y E s p a _ _ hx hI hp) pm_y_X6_goOn pm_s_X6_goOn pm_m_X6_235 dX6_doWord_403 rfl rfl (by decide) (Nat.le_of_ble_eq_true rfl) (fun x403 S403 h403 => ?_)
    obtain ⟨rfl, hx2⟩ := h403
    subst hQ9
    refine pm_iret dX6_doWord_406 ?_
    first
    | (rw [if_neg (by decide)] at hx2; subst hW; exact wok yLe.rf hx2)
    | (rw [if_pos (by decide)] at hx2; subst hW; exact wok yLe.rf hx2)

set_option maxHeartbeats 4000000 in
set_option maxRecDepth 100000 in
theorem w_13 (G : pm_G) (l : Launch) (bs : Nat) (Z : az) (Y : pm_Y) (E : pm_S) (s : Nat) (p ja jb jc : Nat) (a b c : Int32) (vo : Value) (W : az) (S : pm_S) (hx : pm_CX Z S Y E) (hI : zI s Z) (hp : p < az_a Z 0) (h0 : az_b Z 1 p = 0) (hja : ja < 8) (hjb : jb < 8) (hjc : jc < 8) (hW : (if zCmp (az_t Z 0 p jb) (az_t Z 0 p jc) < 0 then zAt Z p (pm_mod a 300) else Z) = W) : pm_W G l bs yX6_doWord.cls cX6_doWord 9 false 6 (zU W - zU Z) (49 * (zU W - zU Z)) (pm_xi (wQ Z Y E p W)) 407 [.ref (Y.1 0), .ref (Y.1 (pq p 0)), vo, .int a, .int b, .int c, .ref (Y.1 (pq p (10 + ja))), .ref (Y.1 (pq p (10 + jb))), .ref (Y.1 (pq p (10 + jc)))] [] S := by
  have hn := hI.1
  have hsm := hI.sm
  obtain ⟨h, hmk⟩ := id hx
  have hA := h.2.2.2.2.2.1
  obtain ⟨⟨hk0, hr0, hr1, hr2, hr3, hr4, hr5, hr6, hr7⟩, ⟨hk1, hl1⟩, ⟨hk2, hl2⟩, ⟨hk3, hl3⟩, ⟨hk4, hl4⟩, hWt, hSh, hLt, hCs⟩ := id h.2.2.1
  obtain ⟨kW, rW1, rW2, rW3, kW1, nW1, kW2, nW2, kW3, nW3, -⟩ := id hWt
  have hB := h.2.2.2.2.1 p hp
  obtain ⟨⟨pk0, pr1, pr2, pr4, pr6, ppid⟩, ⟨pk1, pn1, pz1⟩, hmb, hts⟩ := id (h.2.2.2.1 p hp)
  have h02 : az_b Z 1 p ≠ 2 := by omega
  have hta := hx.tm (j := ja) hp hja
  have htb := hx.tm (j := jb) hp hjb
  have htc := hx.tm (j := jc) hp hjc
  have hwa := hI.rg hp hja
  have hwb := hI.rg hp hjb
  have hwc := hI.rg hp hjc
  have hla := hwa.len
  have hlb := hwb.len
  have hlc := hwc.len
  have kta := hta.1.1
  have ktb := htb.1.1
  have ktc := htc.1.1
  generalize hQ9 : pm_xi (wQ Z Y E p W) = Q9
  refine pm_aload_n dX6_doWord_407 rfl ?_
  refine pm_iload_n dX6_doWord_408 rfl ?_
  refine pm_aload dX6_doWord_409 rfl ?_
  refine pm_aload dX6_doWord_411 rfl ?_
  refine pm_vi (c_X3_compareWith G l bs (Y.1 (pq p (10 + jb))) (Y.1 (pq p (20 + jb))) (Y.1 (pq p (10 + jc))) (Y.1 (pq p (20 + jc))) (az_t Z 0 p jb) (az_t Z 0 p jc) _ htb htc) pm_y_X3_compareWith pm_v_X3_compareWith pm_m_X6_239 (c := 3) (r := (RX3, TX3, 2)) rfl rfl (by (try simp only [pm_k_si, pm_k_sj, pm_k_sp, pm_k_sx, pm_k_sz, pm_k_sr, pm_k_sy]); assumption) dX6_doWord_413 rfl rfl (by decide) (Nat.le_of_ble_eq_true rfl) (fun x413 S413 h413 => ?_)
  obtain ⟨rfl, rfl⟩ := h413
  refine pm_if_ge (tgt := 423) dX6_doWord_416 (by decide) (fun h416 => ?_) (fun h416 => ?_)
  · skip
    have hk : ¬ (zCmp (az_t Z 0 p jb) (az_t Z 0 p jc) < 0) := Int32.not_lt.mpr h416
    rw [if_neg hk] at hW
    refine pm_iconst (v := 0) dX6_doWord_423 (by decide) ?_
    refine pm_ssi (c_X6_goOn G l bs Z Y E s p a _ _ hx hI hp) pm_y_X6_goOn pm_s_X6_goOn pm_m_X6_235 dX6_doWord_424 rfl rfl (by decide) (Nat.le_of_ble_eq_true rfl) (fun x424 S424 h424 => ?_)
    obtain ⟨rfl, hx2⟩ := h424
    subst hQ9
    refine pm_iret dX6_doWord_427 ?_
    first
    | (rw [if_neg (by decide)] at hx2; subst hW; exact wok yLe.rf hx2)
    | (rw [if_pos (by decide)] at hx2; subst hW; exact wok yLe.rf hx2)
  · skip
    have hk : zCmp (az_t Z 0 p jb) (az_t Z 0 p jc) < 0 := Int32.not_le.mp h416
    rw [if_pos hk] at hW
    refine pm_iconst (v := 1) dX6_doWord_419 (by decide) ?_
    refine pm_goto (tgt := 424) dX6_doWord_420 (by decide) ?_
    refine pm_ssi (c_X6_goOn G l bs Z Y E s p a _ _ hx hI hp) pm_y_X6_goOn pm_s_X6_goOn pm_m_X6_235 dX6_doWord_424 rfl rfl (by decide) (Nat.le_of_ble_eq_true rfl) (fun x424 S424 h424 => ?_)
    obtain ⟨rfl, hx2⟩ := h424
    subst hQ9
    refine pm_iret dX6_doWord_427 ?_
    first
    | (rw [if_neg (by decide)] at hx2; subst hW; exact wok yLe.rf hx2)
    | (rw [if_pos (by decide)] at hx2; subst hW; exact wok yLe.rf hx2)

set_option maxHeartbeats 4000000 in
set_option maxRecDepth 100000 in
theorem w_14 (G : pm_G) (l : Launch) (bs : Nat) (Z : az) (Y : pm_Y) (E : pm_S) (s : Nat) (p ja jb jc : Nat) (a b c : Int32) (vo : Value) (W : az) (S : pm_S) (hx : pm_CX Z S Y E) (hI : zI s Z) (hp : p < az_a Z 0) (h0 : az_b Z 1 p = 0) (hja : ja < 8) (hjb : jb < 8) (hjc : jc < 8) (hW : (if zCmp (az_t Z 0 p jb) (az_t Z 0 p jc) ≤ 0 then zAt Z p (pm_mod a 300) else Z) = W) : pm_W G l bs yX6_doWord.cls cX6_doWord 9 false 6 (zU W - zU Z) (49 * (zU W - zU Z)) (pm_xi (wQ Z Y E p W)) 428 [.ref (Y.1 0), .ref (Y.1 (pq p 0)), vo, .int a, .int b, .int c, .ref (Y.1 (pq p (10 + ja))), .ref (Y.1 (pq p (10 + jb))), .ref (Y.1 (pq p (10 + jc)))] [] S := by
  have hn := hI.1
  have hsm := hI.sm
  obtain ⟨h, hmk⟩ := id hx
  have hA := h.2.2.2.2.2.1
  obtain ⟨⟨hk0, hr0, hr1, hr2, hr3, hr4, hr5, hr6, hr7⟩, ⟨hk1, hl1⟩, ⟨hk2, hl2⟩, ⟨hk3, hl3⟩, ⟨hk4, hl4⟩, hWt, hSh, hLt, hCs⟩ := id h.2.2.1
  obtain ⟨kW, rW1, rW2, rW3, kW1, nW1, kW2, nW2, kW3, nW3, -⟩ := id hWt
  have hB := h.2.2.2.2.1 p hp
  obtain ⟨⟨pk0, pr1, pr2, pr4, pr6, ppid⟩, ⟨pk1, pn1, pz1⟩, hmb, hts⟩ := id (h.2.2.2.1 p hp)
  have h02 : az_b Z 1 p ≠ 2 := by omega
  have hta := hx.tm (j := ja) hp hja
  have htb := hx.tm (j := jb) hp hjb
  have htc := hx.tm (j := jc) hp hjc
  have hwa := hI.rg hp hja
  have hwb := hI.rg hp hjb
  have hwc := hI.rg hp hjc
  have hla := hwa.len
  have hlb := hwb.len
  have hlc := hwc.len
  have kta := hta.1.1
  have ktb := htb.1.1
  have ktc := htc.1.1
  generalize hQ9 : pm_xi (wQ Z Y E p W) = Q9
  refine pm_aload_n dX6_doWord_428 rfl ?_
  refine pm_iload_n dX6_doWord_429 rfl ?_
  refine pm_aload dX6_doWord_430 rfl ?_
  refine pm_aload dX6_doWord_432 rfl ?_
  refine pm_vi (c_X3_compareWith G l bs (Y.1 (pq p (10 + jb))) (Y.1 (pq p (20 + jb))) (Y.1 (pq p (10 + jc))) (Y.1 (pq p (20 + jc))) (az_t Z 0 p jb) (az_t Z 0 p jc) _ htb htc) pm_y_X3_compareWith pm_v_X3_compareWith pm_m_X6_239 (c := 3) (r := (RX3, TX3, 2)) rfl rfl (by (try simp only [pm_k_si, pm_k_sj, pm_k_sp, pm_k_sx, pm_k_sz, pm_k_sr, pm_k_sy]); assumption) dX6_doWord_434 rfl rfl (by decide) (Nat.le_of_ble_eq_true rfl) (fun x434 S434 h434 => ?_)
  obtain ⟨rfl, rfl⟩ := h434
  refine pm_if_gt (tgt := 444) dX6_doWord_437 (by decide) (fun h437 => ?_) (fun h437 => ?_)
  · skip
    have hk : ¬ (zCmp (az_t Z 0 p jb) (az_t Z 0 p jc) ≤ 0) := Int32.not_le.mpr h437
    rw [if_neg hk] at hW
    refine pm_iconst (v := 0) dX6_doWord_444 (by decide) ?_
    refine pm_ssi (c_X6_goOn G l bs Z Y E s p a _ _ hx hI hp) pm_y_X6_goOn pm_s_X6_goOn pm_m_X6_235 dX6_doWord_445 rfl rfl (by decide) (Nat.le_of_ble_eq_true rfl) (fun x445 S445 h445 => ?_)
    obtain ⟨rfl, hx2⟩ := h445
    subst hQ9
    refine pm_iret dX6_doWord_448 ?_
    first
    | (rw [if_neg (by decide)] at hx2; subst hW; exact wok yLe.rf hx2)
    | (rw [if_pos (by decide)] at hx2; subst hW; exact wok yLe.rf hx2)
  · skip
    have hk : zCmp (az_t Z 0 p jb) (az_t Z 0 p jc) ≤ 0 := Int32.not_lt.mp h437
    rw [if_pos hk] at hW
    refine pm_iconst (v := 1) dX6_doWord_440 (by decide) ?_
    refine pm_goto (tgt := 445) dX6_doWord_441 (by decide) ?_
    refine pm_ssi (c_X6_goOn G l bs Z Y E s p a _ _ hx hI hp) pm_y_X6_goOn pm_s_X6_goOn pm_m_X6_235 dX6_doWord_445 rfl rfl (by decide) (Nat.le_of_ble_eq_true rfl) (fun x445 S445 h445 => ?_)
    obtain ⟨rfl, hx2⟩ := h445
    subst hQ9
    refine pm_iret dX6_doWord_448 ?_
    first
    | (rw [if_neg (by decide)] at hx2; subst hW; exact wok yLe.rf hx2)
    | (rw [if_pos (by decide)] at hx2; subst hW; exact wok yLe.rf hx2)

set_option maxHeartbeats 4000000 in
set_option maxRecDepth 100000 in
theorem w_15 (G : pm_G) (l : Launch) (bs : Nat) (Z : az) (Y : pm_Y) (E : pm_S) (s : Nat) (p ja jb jc : Nat) (a b c : Int32) (vo : Value) (W : az) (S : pm_S) (hx : pm_CX Z S Y E) (hI : zI s Z) (hp : p < az_a Z 0) (h0 : az_b Z 1 p = 0) (hja : ja < 8) (hjb : jb < 8) (hjc : jc < 8) (hW : (if az_b Z 7 p < 16 then zAt (zs_b (zs_c Z 0 p (az_b Z 7 p) (az_b Z 2 p)) 7 p (az_b Z 7 p + 1)) p (pm_mod a 300) else zLim Z p) = W) : pm_W G l bs yX6_doWord.cls cX6_doWord 9 false 6 (zU W - zU Z) (49 * (zU W - zU Z)) (pm_xi (wQ Z Y E p W)) 449 [.ref (Y.1 0), .ref (Y.1 (pq p 0)), vo, .int a, .int b, .int c, .ref (Y.1 (pq p (10 + ja))), .ref (Y.1 (pq p (10 + jb))), .ref (Y.1 (pq p (10 + jc)))] [] S := by
  have hn := hI.1
  have hsm := hI.sm
  obtain ⟨h, hmk⟩ := id hx
  have hA := h.2.2.2.2.2.1
  obtain ⟨⟨hk0, hr0, hr1, hr2, hr3, hr4, hr5, hr6, hr7⟩, ⟨hk1, hl1⟩, ⟨hk2, hl2⟩, ⟨hk3, hl3⟩, ⟨hk4, hl4⟩, hWt, hSh, hLt, hCs⟩ := id h.2.2.1
  obtain ⟨kW, rW1, rW2, rW3, kW1, nW1, kW2, nW2, kW3, nW3, -⟩ := id hWt
  have hB := h.2.2.2.2.1 p hp
  obtain ⟨⟨pk0, pr1, pr2, pr4, pr6, ppid⟩, ⟨pk1, pn1, pz1⟩, hmb, hts⟩ := id (h.2.2.2.1 p hp)
  have h02 : az_b Z 1 p ≠ 2 := by omega
  have hta := hx.tm (j := ja) hp hja
  have htb := hx.tm (j := jb) hp hjb
  have htc := hx.tm (j := jc) hp hjc
  have hwa := hI.rg hp hja
  have hwb := hI.rg hp hjb
  have hwc := hI.rg hp hjc
  have hla := hwa.len
  have hlb := hwb.len
  have hlc := hwc.len
  have kta := hta.1.1
  have ktb := htb.1.1
  have ktc := htc.1.1
  generalize hQ9 : pm_xi (wQ Z Y E p W) = Q9
  refine pm_aload_n dX6_doWord_449 rfl ?_
  refine pm_iload_n dX6_doWord_450 rfl ?_
  refine pm_ssi (c_X6_place G l bs a _) pm_y_X6_place pm_s_X6_place pm_m_X6_194 dX6_doWord_451 rfl rfl (by decide) (Nat.le_of_ble_eq_true rfl) (fun x451 S451 h451 => ?_)
  obtain ⟨rfl, rfl⟩ := h451
  refine pm_ssi (c_X6_callWord G l bs Z Y E s p (pm_mod a 300) _ hx hI hp) pm_y_X6_callWord pm_s_X6_callWord pm_m_X6_243 dX6_doWord_454 rfl rfl (by decide) (Nat.le_of_ble_eq_true rfl) (fun x454 S454 h454 => ?_)
  subst hQ9
  refine pm_iret dX6_doWord_457 ?_
  rcases h454 with ⟨hk, rfl, hx2⟩ | ⟨hk, rfl, rfl⟩
  · rw [if_pos hk] at hW; subst hW; exact wok yLe.rf hx2
  · exact wlim hx (by rw [← hW, if_neg (by omega)])

set_option maxHeartbeats 4000000 in
set_option maxRecDepth 100000 in
theorem w_16 (G : pm_G) (l : Launch) (bs : Nat) (Z : az) (Y : pm_Y) (E : pm_S) (s : Nat) (p ja jb jc : Nat) (a b c : Int32) (vo : Value) (W : az) (S : pm_S) (hx : pm_CX Z S Y E) (hI : zI s Z) (hp : p < az_a Z 0) (h0 : az_b Z 1 p = 0) (hja : ja < 8) (hjb : jb < 8) (hjc : jc < 8) (hW : (if az_b Z 7 p = 0 then zDies Z p [1, 0] else zAt (zs_b Z 7 p (az_b Z 7 p - 1)) p (az_c Z 0 p (az_b Z 7 p - 1))) = W) : pm_W G l bs yX6_doWord.cls cX6_doWord 9 false 6 (zU W - zU Z) (49 * (zU W - zU Z)) (pm_xi (wQ Z Y E p W)) 458 [.ref (Y.1 0), .ref (Y.1 (pq p 0)), vo, .int a, .int b, .int c, .ref (Y.1 (pq p (10 + ja))), .ref (Y.1 (pq p (10 + jb))), .ref (Y.1 (pq p (10 + jc)))] [] S := by
  have hn := hI.1
  have hsm := hI.sm
  obtain ⟨h, hmk⟩ := id hx
  have hA := h.2.2.2.2.2.1
  obtain ⟨⟨hk0, hr0, hr1, hr2, hr3, hr4, hr5, hr6, hr7⟩, ⟨hk1, hl1⟩, ⟨hk2, hl2⟩, ⟨hk3, hl3⟩, ⟨hk4, hl4⟩, hWt, hSh, hLt, hCs⟩ := id h.2.2.1
  obtain ⟨kW, rW1, rW2, rW3, kW1, nW1, kW2, nW2, kW3, nW3, -⟩ := id hWt
  have hB := h.2.2.2.2.1 p hp
  obtain ⟨⟨pk0, pr1, pr2, pr4, pr6, ppid⟩, ⟨pk1, pn1, pz1⟩, hmb, hts⟩ := id (h.2.2.2.1 p hp)
  have h02 : az_b Z 1 p ≠ 2 := by omega
  have hta := hx.tm (j := ja) hp hja
  have htb := hx.tm (j := jb) hp hjb
  have htc := hx.tm (j := jc) hp hjc
  have hwa := hI.rg hp hja
  have hwb := hI.rg hp hjb
  have hwc := hI.rg hp hjc
  have hla := hwa.len
  have hlb := hwb.len
  have hlc := hwc.len
  have kta := hta.1.1
  have ktb := htb.1.1
  have ktc := htc.1.1
  generalize hQ9 : pm_xi (wQ Z Y E p W) = Q9
  refine pm_aload_n dX6_doWord_458 rfl ?_
  refine pm_aload_n dX6_doWord_459 rfl ?_
  refine pm_vi (c_X6_comeBack G l bs Z Y E s p _ hx hI hp h02) pm_y_X6_comeBack pm_v_X6_comeBack pm_m_X6_247 (c := 6) (r := (RX6, TX6, 16)) rfl rfl (by (try simp only [pm_k_si, pm_k_sj, pm_k_sp, pm_k_sx, pm_k_sz, pm_k_sr, pm_k_sy]); assumption) dX6_doWord_460 rfl rfl (by decide) (Nat.le_of_ble_eq_true rfl) (fun x460 S460 h460 => ?_)
  obtain ⟨rfl, hx2⟩ := h460
  subst hQ9
  refine pm_iret dX6_doWord_463 ?_
  subst hW
  exact wok yLe.rf hx2

set_option maxHeartbeats 4000000 in
set_option maxRecDepth 100000 in
theorem w_17 (G : pm_G) (l : Launch) (bs : Nat) (Z : az) (Y : pm_Y) (E : pm_S) (s : Nat) (p ja jb jc : Nat) (a b c : Int32) (vo : Value) (W : az) (S : pm_S) (hx : pm_CX Z S Y E) (hI : zI s Z) (hp : p < az_a Z 0) (h0 : az_b Z 1 p = 0) (hja : ja < 8) (hjb : jb < 8) (hjc : jc < 8) (hW : (if az_b Z 8 p < 8 then zs_b (zs_c (zs_c Z 1 p (az_b Z 8 p) (pm_mod a 300)) 2 p (az_b Z 8 p) (az_b Z 7 p)) 8 p (az_b Z 8 p + 1) else zLim Z p) = W) : pm_W G l bs yX6_doWord.cls cX6_doWord 9 false 6 (zU W - zU Z) (49 * (zU W - zU Z)) (pm_xi (wQ Z Y E p W)) 464 [.ref (Y.1 0), .ref (Y.1 (pq p 0)), vo, .int a, .int b, .int c, .ref (Y.1 (pq p (10 + ja))), .ref (Y.1 (pq p (10 + jb))), .ref (Y.1 (pq p (10 + jc)))] [] S := by
  have hn := hI.1
  have hsm := hI.sm
  obtain ⟨h, hmk⟩ := id hx
  have hA := h.2.2.2.2.2.1
  obtain ⟨⟨hk0, hr0, hr1, hr2, hr3, hr4, hr5, hr6, hr7⟩, ⟨hk1, hl1⟩, ⟨hk2, hl2⟩, ⟨hk3, hl3⟩, ⟨hk4, hl4⟩, hWt, hSh, hLt, hCs⟩ := id h.2.2.1
  obtain ⟨kW, rW1, rW2, rW3, kW1, nW1, kW2, nW2, kW3, nW3, -⟩ := id hWt
  have hB := h.2.2.2.2.1 p hp
  obtain ⟨⟨pk0, pr1, pr2, pr4, pr6, ppid⟩, ⟨pk1, pn1, pz1⟩, hmb, hts⟩ := id (h.2.2.2.1 p hp)
  have h02 : az_b Z 1 p ≠ 2 := by omega
  have hta := hx.tm (j := ja) hp hja
  have htb := hx.tm (j := jb) hp hjb
  have htc := hx.tm (j := jc) hp hjc
  have hwa := hI.rg hp hja
  have hwb := hI.rg hp hjb
  have hwc := hI.rg hp hjc
  have hla := hwa.len
  have hlb := hwb.len
  have hlc := hwc.len
  have kta := hta.1.1
  have ktb := htb.1.1
  have ktc := htc.1.1
  generalize hQ9 : pm_xi (wQ Z Y E p W) = Q9
  refine pm_aload_n dX6_doWord_464 rfl ?_
  refine pm_g_Proc_trail (by (try simp only [pm_k_si, pm_k_sj, pm_k_sp, pm_k_sx, pm_k_sz, pm_k_sr, pm_k_sy]); assumption) pm_f_X6_250 (by (try simp only [pm_p_si, pm_p_sj, pm_p_sx, pm_p_sz, pm_p_sr, pm_p_sy]); assumption) dX6_doWord_465 ?_
  refine pm_iload_n dX6_doWord_468 rfl ?_
  refine pm_ssi (c_X6_place G l bs a _) pm_y_X6_place pm_s_X6_place pm_m_X6_194 dX6_doWord_469 rfl rfl (by decide) (Nat.le_of_ble_eq_true rfl) (fun x469 S469 h469 => ?_)
  obtain ⟨rfl, rfl⟩ := h469
  refine pm_vi (c_X4_addCatch G l bs (Y.1 (pq p 6)) (Y.1 (pq p 7)) (Y.1 (pq p 8)) (Y.1 (pq p 9)) (az_b Z 8 p) (az_b Z 7 p) (nI (pm_mod a 300)) _ hts (hB 204 6 8 rfl) (hB 203 6 7 rfl) (hsm p hp 8 (by decide))) pm_y_X4_addCatch pm_v_X4_addCatch pm_m_X6_254 (c := 4) (r := (RX4, TX4, 5)) rfl rfl hts.1 dX6_doWord_472 rfl rfl (by decide) (Nat.le_of_ble_eq_true rfl) (fun x472 S472 h472 => ?_)
  refine pm_if_eq (tgt := 482) dX6_doWord_475 (by decide) (fun h475 => ?_) (fun h475 => ?_)
  · skip
    rcases h472 with ⟨hl, -, rfl⟩ | ⟨-, e, -⟩
    case inr => rw [e] at h475; cases h475
    refine pm_iconst (v := 5) dX6_doWord_482 (by decide) ?_
    subst hQ9
    refine pm_iret dX6_doWord_483 ?_
    first
    | exact wlim hx (by rw [← hW, if_neg (by omega)])
    | (rw [if_pos hl] at hW; subst hW; exact wok yLe.rf (by rw [e]; exact hx.lift (h.push8 hn hp rfl) rfl (fun q => z_b_bne (by decide))))
  · skip
    rcases h472 with ⟨-, e, -⟩ | ⟨hl, -, e⟩
    case inl => exact absurd e h475
    refine pm_iconst (v := (-1)) dX6_doWord_478 (by decide) ?_
    refine pm_goto (tgt := 483) dX6_doWord_479 (by decide) ?_
    subst hQ9
    refine pm_iret dX6_doWord_483 ?_
    first
    | exact wlim hx (by rw [← hW, if_neg (by omega)])
    | (rw [if_pos hl] at hW; subst hW; exact wok yLe.rf (by rw [e]; exact hx.lift (h.push8 hn hp rfl) rfl (fun q => z_b_bne (by decide))))

set_option maxHeartbeats 4000000 in
set_option maxRecDepth 100000 in
theorem w_18 (G : pm_G) (l : Launch) (bs : Nat) (Z : az) (Y : pm_Y) (E : pm_S) (s : Nat) (p ja jb jc : Nat) (a b c : Int32) (vo : Value) (W : az) (S : pm_S) (hx : pm_CX Z S Y E) (hI : zI s Z) (hp : p < az_a Z 0) (h0 : az_b Z 1 p = 0) (hja : ja < 8) (hjb : jb < 8) (hjc : jc < 8) (hW : (if az_b Z 8 p = 0 then Z else zs_b Z 8 p (az_b Z 8 p - 1)) = W) : pm_W G l bs yX6_doWord.cls cX6_doWord 9 false 6 (zU W - zU Z) (49 * (zU W - zU Z)) (pm_xi (wQ Z Y E p W)) 484 [.ref (Y.1 0), .ref (Y.1 (pq p 0)), vo, .int a, .int b, .int c, .ref (Y.1 (pq p (10 + ja))), .ref (Y.1 (pq p (10 + jb))), .ref (Y.1 (pq p (10 + jc)))] [] S := by
  have hn := hI.1
  have hsm := hI.sm
  obtain ⟨h, hmk⟩ := id hx
  have hA := h.2.2.2.2.2.1
  obtain ⟨⟨hk0, hr0, hr1, hr2, hr3, hr4, hr5, hr6, hr7⟩, ⟨hk1, hl1⟩, ⟨hk2, hl2⟩, ⟨hk3, hl3⟩, ⟨hk4, hl4⟩, hWt, hSh, hLt, hCs⟩ := id h.2.2.1
  obtain ⟨kW, rW1, rW2, rW3, kW1, nW1, kW2, nW2, kW3, nW3, -⟩ := id hWt
  have hB := h.2.2.2.2.1 p hp
  obtain ⟨⟨pk0, pr1, pr2, pr4, pr6, ppid⟩, ⟨pk1, pn1, pz1⟩, hmb, hts⟩ := id (h.2.2.2.1 p hp)
  have h02 : az_b Z 1 p ≠ 2 := by omega
  have hta := hx.tm (j := ja) hp hja
  have htb := hx.tm (j := jb) hp hjb
  have htc := hx.tm (j := jc) hp hjc
  have hwa := hI.rg hp hja
  have hwb := hI.rg hp hjb
  have hwc := hI.rg hp hjc
  have hla := hwa.len
  have hlb := hwb.len
  have hlc := hwc.len
  have kta := hta.1.1
  have ktb := htb.1.1
  have ktc := htc.1.1
  generalize hQ9 : pm_xi (wQ Z Y E p W) = Q9
  refine pm_aload_n dX6_doWord_484 rfl ?_
  refine pm_ssi (c_X6_dropCatch G l bs Z Y E s p _ hx hI hp) pm_y_X6_dropCatch pm_s_X6_dropCatch pm_m_X6_260 dX6_doWord_485 rfl rfl (by decide) (Nat.le_of_ble_eq_true rfl) (fun x485 S485 h485 => ?_)
  obtain ⟨rfl, hx2⟩ := h485
  subst hQ9
  refine pm_iret dX6_doWord_488 ?_
  subst hW
  exact wok yLe.rf hx2

set_option maxHeartbeats 4000000 in
set_option maxRecDepth 100000 in
theorem w_19 (G : pm_G) (l : Launch) (bs : Nat) (Z : az) (Y : pm_Y) (E : pm_S) (s : Nat) (p ja jb jc : Nat) (a b c : Int32) (vo : Value) (W : az) (S : pm_S) (hx : pm_CX Z S Y E) (hI : zI s Z) (hp : p < az_a Z 0) (h0 : az_b Z 1 p = 0) (hja : ja < 8) (hjb : jb < 8) (hjc : jc < 8) (hW : zFails Z p (az_t Z 0 p ja) = W) : pm_W G l bs yX6_doWord.cls cX6_doWord 9 false 6 (zU W - zU Z) (49 * (zU W - zU Z)) (pm_xi (wQ Z Y E p W)) 489 [.ref (Y.1 0), .ref (Y.1 (pq p 0)), vo, .int a, .int b, .int c, .ref (Y.1 (pq p (10 + ja))), .ref (Y.1 (pq p (10 + jb))), .ref (Y.1 (pq p (10 + jc)))] [] S := by
  have hn := hI.1
  have hsm := hI.sm
  obtain ⟨h, hmk⟩ := id hx
  have hA := h.2.2.2.2.2.1
  obtain ⟨⟨hk0, hr0, hr1, hr2, hr3, hr4, hr5, hr6, hr7⟩, ⟨hk1, hl1⟩, ⟨hk2, hl2⟩, ⟨hk3, hl3⟩, ⟨hk4, hl4⟩, hWt, hSh, hLt, hCs⟩ := id h.2.2.1
  obtain ⟨kW, rW1, rW2, rW3, kW1, nW1, kW2, nW2, kW3, nW3, -⟩ := id hWt
  have hB := h.2.2.2.2.1 p hp
  obtain ⟨⟨pk0, pr1, pr2, pr4, pr6, ppid⟩, ⟨pk1, pn1, pz1⟩, hmb, hts⟩ := id (h.2.2.2.1 p hp)
  have h02 : az_b Z 1 p ≠ 2 := by omega
  have hta := hx.tm (j := ja) hp hja
  have htb := hx.tm (j := jb) hp hjb
  have htc := hx.tm (j := jc) hp hjc
  have hwa := hI.rg hp hja
  have hwb := hI.rg hp hjb
  have hwc := hI.rg hp hjc
  have hla := hwa.len
  have hlb := hwb.len
  have hlc := hwc.len
  have kta := hta.1.1
  have ktb := htb.1.1
  have ktc := htc.1.1
  generalize hQ9 : pm_xi (wQ Z Y E p W) = Q9
  refine pm_aload_n dX6_doWord_489 rfl ?_
  refine pm_aload_n dX6_doWord_490 rfl ?_
  refine pm_aload dX6_doWord_491 rfl ?_
  refine pm_vi (c_X6_fail G l bs Z Y E s p (Y.1 (pq p (10 + ja))) (Y.1 (pq p (20 + ja))) (az_t Z 0 p ja) _ hx hI hp h02 hta) pm_y_X6_fail pm_v_X6_fail pm_m_X6_202 (c := 6) (r := (RX6, TX6, 16)) rfl rfl (by (try simp only [pm_k_si, pm_k_sj, pm_k_sp, pm_k_sx, pm_k_sz, pm_k_sr, pm_k_sy]); assumption) dX6_doWord_493 rfl rfl (by decide) (Nat.le_of_ble_eq_true rfl) (fun x493 S493 h493 => ?_)
  obtain ⟨rfl, hx2⟩ := h493
  subst hQ9
  refine pm_iret dX6_doWord_496 ?_
  subst hW
  exact wok yLe.rf hx2

set_option maxHeartbeats 4000000 in
set_option maxRecDepth 100000 in
theorem w_20 (G : pm_G) (l : Launch) (bs : Nat) (Z : az) (Y : pm_Y) (E : pm_S) (s : Nat) (p ja jb jc : Nat) (a b c : Int32) (vo : Value) (W : az) (S : pm_S) (hx : pm_CX Z S Y E) (hI : zI s Z) (hp : p < az_a Z 0) (h0 : az_b Z 1 p = 0) (hja : ja < 8) (hjb : jb < 8) (hjc : jc < 8) (hW : zs_t Z 0 p ja [2, nI (p + 1)] = W) : pm_W G l bs yX6_doWord.cls cX6_doWord 9 false 6 (zU W - zU Z) (49 * (zU W - zU Z)) (pm_xi (wQ Z Y E p W)) 497 [.ref (Y.1 0), .ref (Y.1 (pq p 0)), vo, .int a, .int b, .int c, .ref (Y.1 (pq p (10 + ja))), .ref (Y.1 (pq p (10 + jb))), .ref (Y.1 (pq p (10 + jc)))] [] S := by
  have hn := hI.1
  have hsm := hI.sm
  obtain ⟨h, hmk⟩ := id hx
  have hA := h.2.2.2.2.2.1
  obtain ⟨⟨hk0, hr0, hr1, hr2, hr3, hr4, hr5, hr6, hr7⟩, ⟨hk1, hl1⟩, ⟨hk2, hl2⟩, ⟨hk3, hl3⟩, ⟨hk4, hl4⟩, hWt, hSh, hLt, hCs⟩ := id h.2.2.1
  obtain ⟨kW, rW1, rW2, rW3, kW1, nW1, kW2, nW2, kW3, nW3, -⟩ := id hWt
  have hB := h.2.2.2.2.1 p hp
  obtain ⟨⟨pk0, pr1, pr2, pr4, pr6, ppid⟩, ⟨pk1, pn1, pz1⟩, hmb, hts⟩ := id (h.2.2.2.1 p hp)
  have h02 : az_b Z 1 p ≠ 2 := by omega
  have hta := hx.tm (j := ja) hp hja
  have htb := hx.tm (j := jb) hp hjb
  have htc := hx.tm (j := jc) hp hjc
  have hwa := hI.rg hp hja
  have hwb := hI.rg hp hjb
  have hwc := hI.rg hp hjc
  have hla := hwa.len
  have hlb := hwb.len
  have hlc := hwc.len
  have kta := hta.1.1
  have ktb := htb.1.1
  have ktc := htc.1.1
  generalize hQ9 : pm_xi (wQ Z Y E p W) = Q9
  refine pm_aload dX6_doWord_497 rfl ?_
  refine pm_iconst (v := 2) dX6_doWord_499 (by decide) ?_
  refine pm_aload_n dX6_doWord_500 rfl ?_
  refine pm_g_Proc_pid (by (try simp only [pm_k_si, pm_k_sj, pm_k_sp, pm_k_sx, pm_k_sz, pm_k_sr, pm_k_sy]); assumption) pm_f_X6_88 dX6_doWord_501 ?_
  rw [ppid]
  refine pm_ssi (c_X6_give G l bs (Y.1 (pq p (10 + ja))) (Y.1 (pq p (20 + ja))) 2 (nI (p + 1)) _ hta.1) pm_y_X6_give pm_s_X6_give pm_m_X6_213 dX6_doWord_504 rfl rfl (by decide) (Nat.le_of_ble_eq_true rfl) (fun x504 S504 h504 => ?_)
  obtain ⟨rfl, f, t⟩ := h504
  subst hQ9
  refine pm_iret dX6_doWord_507 ?_
  subst hW
  exact wok yLe.rf (hx.rg hn hp hja f t)

set_option maxHeartbeats 4000000 in
set_option maxRecDepth 100000 in
theorem w_21 (G : pm_G) (l : Launch) (bs : Nat) (Z : az) (Y : pm_Y) (E : pm_S) (s : Nat) (p ja jb jc : Nat) (a b c : Int32) (vo : Value) (W : az) (S : pm_S) (hx : pm_CX Z S Y E) (hI : zI s Z) (hp : p < az_a Z 0) (h0 : az_b Z 1 p = 0) (hja : ja < 8) (hjb : jb < 8) (hjc : jc < 8) (hW : (if az_a Z 0 < 60 then zBg Z p false ja (pm_mod b 300) (az_t Z 0 p jc) else zLim Z p) = W) : pm_W G l bs yX6_doWord.cls cX6_doWord 9 false 6 (zU W - zU Z) (49 * (zU W - zU Z)) (pm_xi (wQ Z Y E p W)) 508 [.ref (Y.1 0), .ref (Y.1 (pq p 0)), vo, .int a, .int b, .int c, .ref (Y.1 (pq p (10 + ja))), .ref (Y.1 (pq p (10 + jb))), .ref (Y.1 (pq p (10 + jc)))] [] S := by
  have hn := hI.1
  have hsm := hI.sm
  obtain ⟨h, hmk⟩ := id hx
  have hA := h.2.2.2.2.2.1
  obtain ⟨⟨hk0, hr0, hr1, hr2, hr3, hr4, hr5, hr6, hr7⟩, ⟨hk1, hl1⟩, ⟨hk2, hl2⟩, ⟨hk3, hl3⟩, ⟨hk4, hl4⟩, hWt, hSh, hLt, hCs⟩ := id h.2.2.1
  obtain ⟨kW, rW1, rW2, rW3, kW1, nW1, kW2, nW2, kW3, nW3, -⟩ := id hWt
  have hB := h.2.2.2.2.1 p hp
  obtain ⟨⟨pk0, pr1, pr2, pr4, pr6, ppid⟩, ⟨pk1, pn1, pz1⟩, hmb, hts⟩ := id (h.2.2.2.1 p hp)
  have h02 : az_b Z 1 p ≠ 2 := by omega
  have hta := hx.tm (j := ja) hp hja
  have htb := hx.tm (j := jb) hp hjb
  have htc := hx.tm (j := jc) hp hjc
  have hwa := hI.rg hp hja
  have hwb := hI.rg hp hjb
  have hwc := hI.rg hp hjc
  have hla := hwa.len
  have hlb := hwb.len
  have hlc := hwc.len
  have kta := hta.1.1
  have ktb := htb.1.1
  have ktc := htc.1.1
  generalize hQ9 : pm_xi (wQ Z Y E p W) = Q9
  have hb : zU (zBg Z p false ja (pm_mod b 300) (az_t Z 0 p jc)) - zU Z ≤ zU W - zU Z := by
    by_cases z : az_a Z 0 < 60
    · rw [if_pos z] at hW; rw [hW]; exact Nat.le_refl _
    · rw [show zBg Z p false ja (pm_mod b 300) (az_t Z 0 p jc) = Z from by unfold zBg; rw [if_neg z]]; omega
  refine pm_aload_n dX6_doWord_508 rfl ?_
  refine pm_aload_n dX6_doWord_509 rfl ?_
  refine pm_iconst (v := 0) dX6_doWord_510 (by decide) ?_
  refine pm_aload dX6_doWord_511 rfl ?_
  refine pm_iload dX6_doWord_513 rfl ?_
  refine pm_ssi (c_X6_place G l bs b _) pm_y_X6_place pm_s_X6_place pm_m_X6_194 dX6_doWord_515 rfl rfl (by decide) (Nat.le_of_ble_eq_true rfl) (fun x515 S515 h515 => ?_)
  obtain ⟨rfl, rfl⟩ := h515
  refine pm_aload dX6_doWord_518 rfl ?_
  refine pm_vik (kc2 := 0) (ks2 := 0) (c_X6_beget G l bs Z Y E s p ja (pm_mod b 300) jc false _ _ hx hI hp hja hjc (pm_mod_lt b (by decide)) rfl) pm_y_X6_beget pm_v_X6_beget pm_m_X6_263 (c := 6) (r := (RX6, TX6, 16)) rfl rfl (by (try simp only [pm_k_si, pm_k_sj, pm_k_sp, pm_k_sx, pm_k_sz, pm_k_sr, pm_k_sy]); assumption) dX6_doWord_520 rfl rfl (by decide) (Nat.le_of_ble_eq_true rfl) (by omega) (by omega) (fun x520 S520 h520 => ?_)
  obtain ⟨rfl, Y2, hle, hx2⟩ := h520
  subst hQ9
  refine pm_iret dX6_doWord_523 ?_
  refine wgen hle hx2 ?_
  by_cases z : az_a Z 0 < 60
  · rw [if_pos z] at hW; rw [if_pos z]; exact Or.inl ⟨rfl, hW⟩
  · rw [if_neg z] at hW; rw [if_neg z]; exact Or.inr (Or.inr ⟨rfl, by unfold zBg; rw [if_neg z], hW.symm⟩)

set_option maxHeartbeats 4000000 in
set_option maxRecDepth 100000 in
theorem w_22 (G : pm_G) (l : Launch) (bs : Nat) (Z : az) (Y : pm_Y) (E : pm_S) (s : Nat) (p ja jb jc : Nat) (a b c : Int32) (vo : Value) (W : az) (S : pm_S) (hx : pm_CX Z S Y E) (hI : zI s Z) (hp : p < az_a Z 0) (h0 : az_b Z 1 p = 0) (hja : ja < 8) (hjb : jb < 8) (hjc : jc < 8) (hW : (if az_a Z 0 < 60 then zBg Z p true ja (pm_mod b 300) (az_t Z 0 p jc) else zLim Z p) = W) : pm_W G l bs yX6_doWord.cls cX6_doWord 9 false 6 (zU W - zU Z) (49 * (zU W - zU Z)) (pm_xi (wQ Z Y E p W)) 524 [.ref (Y.1 0), .ref (Y.1 (pq p 0)), vo, .int a, .int b, .int c, .ref (Y.1 (pq p (10 + ja))), .ref (Y.1 (pq p (10 + jb))), .ref (Y.1 (pq p (10 + jc)))] [] S := by
  have hn := hI.1
  have hsm := hI.sm
  obtain ⟨h, hmk⟩ := id hx
  have hA := h.2.2.2.2.2.1
  obtain ⟨⟨hk0, hr0, hr1, hr2, hr3, hr4, hr5, hr6, hr7⟩, ⟨hk1, hl1⟩, ⟨hk2, hl2⟩, ⟨hk3, hl3⟩, ⟨hk4, hl4⟩, hWt, hSh, hLt, hCs⟩ := id h.2.2.1
  obtain ⟨kW, rW1, rW2, rW3, kW1, nW1, kW2, nW2, kW3, nW3, -⟩ := id hWt
  have hB := h.2.2.2.2.1 p hp
  obtain ⟨⟨pk0, pr1, pr2, pr4, pr6, ppid⟩, ⟨pk1, pn1, pz1⟩, hmb, hts⟩ := id (h.2.2.2.1 p hp)
  have h02 : az_b Z 1 p ≠ 2 := by omega
  have hta := hx.tm (j := ja) hp hja
  have htb := hx.tm (j := jb) hp hjb
  have htc := hx.tm (j := jc) hp hjc
  have hwa := hI.rg hp hja
  have hwb := hI.rg hp hjb
  have hwc := hI.rg hp hjc
  have hla := hwa.len
  have hlb := hwb.len
  have hlc := hwc.len
  have kta := hta.1.1
  have ktb := htb.1.1
  have ktc := htc.1.1
  generalize hQ9 : pm_xi (wQ Z Y E p W) = Q9
  have hb : zU (zBg Z p true ja (pm_mod b 300) (az_t Z 0 p jc)) - zU Z ≤ zU W - zU Z := by
    by_cases z : az_a Z 0 < 60
    · rw [if_pos z] at hW; rw [hW]; exact Nat.le_refl _
    · rw [show zBg Z p true ja (pm_mod b 300) (az_t Z 0 p jc) = Z from by unfold zBg; rw [if_neg z]]; omega
  refine pm_aload_n dX6_doWord_524 rfl ?_
  refine pm_aload_n dX6_doWord_525 rfl ?_
  refine pm_iconst (v := 1) dX6_doWord_526 (by decide) ?_
  refine pm_aload dX6_doWord_527 rfl ?_
  refine pm_iload dX6_doWord_529 rfl ?_
  refine pm_ssi (c_X6_place G l bs b _) pm_y_X6_place pm_s_X6_place pm_m_X6_194 dX6_doWord_531 rfl rfl (by decide) (Nat.le_of_ble_eq_true rfl) (fun x531 S531 h531 => ?_)
  obtain ⟨rfl, rfl⟩ := h531
  refine pm_aload dX6_doWord_534 rfl ?_
  refine pm_vik (kc2 := 0) (ks2 := 0) (c_X6_beget G l bs Z Y E s p ja (pm_mod b 300) jc true _ _ hx hI hp hja hjc (pm_mod_lt b (by decide)) rfl) pm_y_X6_beget pm_v_X6_beget pm_m_X6_263 (c := 6) (r := (RX6, TX6, 16)) rfl rfl (by (try simp only [pm_k_si, pm_k_sj, pm_k_sp, pm_k_sx, pm_k_sz, pm_k_sr, pm_k_sy]); assumption) dX6_doWord_536 rfl rfl (by decide) (Nat.le_of_ble_eq_true rfl) (by omega) (by omega) (fun x536 S536 h536 => ?_)
  obtain ⟨rfl, Y2, hle, hx2⟩ := h536
  subst hQ9
  refine pm_iret dX6_doWord_539 ?_
  refine wgen hle hx2 ?_
  by_cases z : az_a Z 0 < 60
  · rw [if_pos z] at hW; rw [if_pos z]; exact Or.inl ⟨rfl, hW⟩
  · rw [if_neg z] at hW; rw [if_neg z]; exact Or.inr (Or.inr ⟨rfl, by unfold zBg; rw [if_neg z], hW.symm⟩)

set_option maxHeartbeats 4000000 in
set_option maxRecDepth 100000 in
theorem w_23 (G : pm_G) (l : Launch) (bs : Nat) (Z : az) (Y : pm_Y) (E : pm_S) (s : Nat) (p ja jb jc : Nat) (a b c : Int32) (vo : Value) (W : az) (S : pm_S) (hx : pm_CX Z S Y E) (hI : zI s Z) (hp : p < az_a Z 0) (h0 : az_b Z 1 p = 0) (hja : ja < 8) (hjb : jb < 8) (hjc : jc < 8) (hW : (if zKind (az_t Z 0 p ja) = 1 ∨ zKind (az_t Z 0 p ja) = 2 then zPst Z (az_t Z 0 p ja) (az_t Z 0 p jb) else zBad Z p) = W) : pm_W G l bs yX6_doWord.cls cX6_doWord 9 false 6 (zU W - zU Z) (49 * (zU W - zU Z)) (pm_xi (wQ Z Y E p W)) 540 [.ref (Y.1 0), .ref (Y.1 (pq p 0)), vo, .int a, .int b, .int c, .ref (Y.1 (pq p (10 + ja))), .ref (Y.1 (pq p (10 + jb))), .ref (Y.1 (pq p (10 + jc)))] [] S := by
  have hn := hI.1
  have hsm := hI.sm
  obtain ⟨h, hmk⟩ := id hx
  have hA := h.2.2.2.2.2.1
  obtain ⟨⟨hk0, hr0, hr1, hr2, hr3, hr4, hr5, hr6, hr7⟩, ⟨hk1, hl1⟩, ⟨hk2, hl2⟩, ⟨hk3, hl3⟩, ⟨hk4, hl4⟩, hWt, hSh, hLt, hCs⟩ := id h.2.2.1
  obtain ⟨kW, rW1, rW2, rW3, kW1, nW1, kW2, nW2, kW3, nW3, -⟩ := id hWt
  have hB := h.2.2.2.2.1 p hp
  obtain ⟨⟨pk0, pr1, pr2, pr4, pr6, ppid⟩, ⟨pk1, pn1, pz1⟩, hmb, hts⟩ := id (h.2.2.2.1 p hp)
  have h02 : az_b Z 1 p ≠ 2 := by omega
  have hta := hx.tm (j := ja) hp hja
  have htb := hx.tm (j := jb) hp hjb
  have htc := hx.tm (j := jc) hp hjc
  have hwa := hI.rg hp hja
  have hwb := hI.rg hp hjb
  have hwc := hI.rg hp hjc
  have hla := hwa.len
  have hlb := hwb.len
  have hlc := hwc.len
  have kta := hta.1.1
  have ktb := htb.1.1
  have ktc := htc.1.1
  generalize hQ9 : pm_xi (wQ Z Y E p W) = Q9
  have hZ0 : ¬ (zKind (az_t Z 0 p ja) = 1 ∨ zKind (az_t Z 0 p ja) = 2) → zPst Z (az_t Z 0 p ja) (az_t Z 0 p jb) = Z := fun z => by
    have e : zAd Z (az_t Z 0 p ja) = none := by unfold zAd; rw [if_neg (fun q => z (Or.inl q))]; exact zTo_no (fun q => z (Or.inr q))
    unfold zPst
    rw [e]
  have hb : zU (zPst Z (az_t Z 0 p ja) (az_t Z 0 p jb)) - zU Z ≤ zU W - zU Z := by
    by_cases z : zKind (az_t Z 0 p ja) = 1 ∨ zKind (az_t Z 0 p ja) = 2
    · rw [if_pos z] at hW; rw [hW]; exact Nat.le_refl _
    · rw [hZ0 z]; omega
  refine pm_aload_n dX6_doWord_540 rfl ?_
  refine pm_aload dX6_doWord_541 rfl ?_
  refine pm_aload dX6_doWord_543 rfl ?_
  refine pm_vik (kc2 := 0) (ks2 := 0) (c_X6_post G l bs Z Y E s (Y.1 (pq p (10 + ja))) (Y.1 (pq p (20 + ja))) (Y.1 (pq p (10 + jb))) (Y.1 (pq p (20 + jb))) (az_t Z 0 p ja) (az_t Z 0 p jb) _ hx hI hta hwa htb) pm_y_X6_post pm_v_X6_post pm_m_X6_267 (c := 6) (r := (RX6, TX6, 16)) rfl rfl (by (try simp only [pm_k_si, pm_k_sj, pm_k_sp, pm_k_sx, pm_k_sz, pm_k_sr, pm_k_sy]); assumption) dX6_doWord_545 rfl rfl (by decide) (Nat.le_of_ble_eq_true rfl) (by omega) (by omega) (fun x545 S545 h545 => ?_)
  obtain ⟨rfl, Y2, hle, hx2⟩ := h545
  subst hQ9
  refine pm_iret dX6_doWord_548 ?_
  refine wgen hle hx2 ?_
  by_cases z : zKind (az_t Z 0 p ja) = 1 ∨ zKind (az_t Z 0 p ja) = 2
  · rw [if_pos z] at hW; rw [if_pos z]; exact Or.inl ⟨rfl, hW⟩
  · rw [if_neg z] at hW; rw [if_neg z]; exact Or.inr (Or.inl ⟨rfl, hZ0 z, hW.symm⟩)

set_option maxHeartbeats 4000000 in
set_option maxRecDepth 100000 in
theorem w_24 (G : pm_G) (l : Launch) (bs : Nat) (Z : az) (Y : pm_Y) (E : pm_S) (s : Nat) (p ja jb jc : Nat) (a b c : Int32) (vo : Value) (W : az) (S : pm_S) (hx : pm_CX Z S Y E) (hI : zI s Z) (hp : p < az_a Z 0) (h0 : az_b Z 1 p = 0) (hja : ja < 8) (hjb : jb < 8) (hjc : jc < 8) (hW : (if az_b Z 10 p < az_b Z 9 p then zs_t Z 0 p jb (az_t Z 2 p (az_b Z 10 p)) else zAt Z p (pm_mod a 300)) = W) : pm_W G l bs yX6_doWord.cls cX6_doWord 9 false 6 (zU W - zU Z) (49 * (zU W - zU Z)) (pm_xi (wQ Z Y E p W)) 549 [.ref (Y.1 0), .ref (Y.1 (pq p 0)), vo, .int a, .int b, .int c, .ref (Y.1 (pq p (10 + ja))), .ref (Y.1 (pq p (10 + jb))), .ref (Y.1 (pq p (10 + jc)))] [] S := by
  have hn := hI.1
  have hsm := hI.sm
  obtain ⟨h, hmk⟩ := id hx
  have hA := h.2.2.2.2.2.1
  obtain ⟨⟨hk0, hr0, hr1, hr2, hr3, hr4, hr5, hr6, hr7⟩, ⟨hk1, hl1⟩, ⟨hk2, hl2⟩, ⟨hk3, hl3⟩, ⟨hk4, hl4⟩, hWt, hSh, hLt, hCs⟩ := id h.2.2.1
  obtain ⟨kW, rW1, rW2, rW3, kW1, nW1, kW2, nW2, kW3, nW3, -⟩ := id hWt
  have hB := h.2.2.2.2.1 p hp
  obtain ⟨⟨pk0, pr1, pr2, pr4, pr6, ppid⟩, ⟨pk1, pn1, pz1⟩, hmb, hts⟩ := id (h.2.2.2.1 p hp)
  have h02 : az_b Z 1 p ≠ 2 := by omega
  have hta := hx.tm (j := ja) hp hja
  have htb := hx.tm (j := jb) hp hjb
  have htc := hx.tm (j := jc) hp hjc
  have hwa := hI.rg hp hja
  have hwb := hI.rg hp hjb
  have hwc := hI.rg hp hjc
  have hla := hwa.len
  have hlb := hwb.len
  have hlc := hwc.len
  have kta := hta.1.1
  have ktb := htb.1.1
  have ktc := htc.1.1
  generalize hQ9 : pm_xi (wQ Z Y E p W) = Q9
  refine pm_aload_n dX6_doWord_549 rfl ?_
  refine pm_aload dX6_doWord_550 rfl ?_
  refine pm_iload_n dX6_doWord_552 rfl ?_
  refine pm_ssi (c_X6_readMail G l bs Z Y E s p (Y.1 (pq p (10 + jb))) (Y.1 (pq p (20 + jb))) a _ hx hI hp htb.1) pm_y_X6_readMail pm_s_X6_readMail pm_m_X6_270 dX6_doWord_553 rfl rfl (by decide) (Nat.le_of_ble_eq_true rfl) (fun x553 S553 h553 => ?_)
  obtain ⟨rfl, h9⟩ := h553
  subst hQ9
  refine pm_iret dX6_doWord_556 ?_
  rcases h9 with ⟨hk, f, t⟩ | ⟨hk, hx2⟩
  · rw [if_pos hk] at hW; subst hW; exact wok yLe.rf (hx.rg hn hp hjb f t)
  · rw [if_neg hk] at hW; subst hW; exact wok yLe.rf hx2

set_option maxHeartbeats 4000000 in
set_option maxRecDepth 100000 in
theorem w_25 (G : pm_G) (l : Launch) (bs : Nat) (Z : az) (Y : pm_Y) (E : pm_S) (s : Nat) (p ja jb jc : Nat) (a b c : Int32) (vo : Value) (W : az) (S : pm_S) (hx : pm_CX Z S Y E) (hI : zI s Z) (hp : p < az_a Z 0) (h0 : az_b Z 1 p = 0) (hja : ja < 8) (hjb : jb < 8) (hjc : jc < 8) (hW : zs_b (if az_b Z 10 p < az_b Z 9 p then zs_b (zs_m Z p (fun k => if k < az_b Z 10 p then az_t Z 2 p k else az_t Z 2 p (k + 1))) 9 p (az_b Z 9 p - 1) else Z) 10 p 0 = W) : pm_W G l bs yX6_doWord.cls cX6_doWord 9 false 6 (zU W - zU Z) (49 * (zU W - zU Z)) (pm_xi (wQ Z Y E p W)) 557 [.ref (Y.1 0), .ref (Y.1 (pq p 0)), vo, .int a, .int b, .int c, .ref (Y.1 (pq p (10 + ja))), .ref (Y.1 (pq p (10 + jb))), .ref (Y.1 (pq p (10 + jc)))] [] S := by
  have hn := hI.1
  have hsm := hI.sm
  obtain ⟨h, hmk⟩ := id hx
  have hA := h.2.2.2.2.2.1
  obtain ⟨⟨hk0, hr0, hr1, hr2, hr3, hr4, hr5, hr6, hr7⟩, ⟨hk1, hl1⟩, ⟨hk2, hl2⟩, ⟨hk3, hl3⟩, ⟨hk4, hl4⟩, hWt, hSh, hLt, hCs⟩ := id h.2.2.1
  obtain ⟨kW, rW1, rW2, rW3, kW1, nW1, kW2, nW2, kW3, nW3, -⟩ := id hWt
  have hB := h.2.2.2.2.1 p hp
  obtain ⟨⟨pk0, pr1, pr2, pr4, pr6, ppid⟩, ⟨pk1, pn1, pz1⟩, hmb, hts⟩ := id (h.2.2.2.1 p hp)
  have h02 : az_b Z 1 p ≠ 2 := by omega
  have hta := hx.tm (j := ja) hp hja
  have htb := hx.tm (j := jb) hp hjb
  have htc := hx.tm (j := jc) hp hjc
  have hwa := hI.rg hp hja
  have hwb := hI.rg hp hjb
  have hwc := hI.rg hp hjc
  have hla := hwa.len
  have hlb := hwb.len
  have hlc := hwc.len
  have kta := hta.1.1
  have ktb := htb.1.1
  have ktc := htc.1.1
  generalize hQ9 : pm_xi (wQ Z Y E p W) = Q9
  refine pm_aload_n dX6_doWord_557 rfl ?_
  refine pm_ssi (c_X6_dropMail G l bs Z Y E s p _ hx hI hp) pm_y_X6_dropMail pm_s_X6_dropMail pm_m_X6_274 dX6_doWord_558 rfl rfl (by decide) (Nat.le_of_ble_eq_true rfl) (fun x558 S558 h558 => ?_)
  obtain ⟨rfl, Y2, hle, hx2⟩ := h558
  subst hQ9
  refine pm_iret dX6_doWord_561 ?_
  subst hW
  exact wok hle hx2

set_option maxHeartbeats 4000000 in
set_option maxRecDepth 100000 in
theorem w_26 (G : pm_G) (l : Launch) (bs : Nat) (Z : az) (Y : pm_Y) (E : pm_S) (s : Nat) (p ja jb jc : Nat) (a b c : Int32) (vo : Value) (W : az) (S : pm_S) (hx : pm_CX Z S Y E) (hI : zI s Z) (hp : p < az_a Z 0) (h0 : az_b Z 1 p = 0) (hja : ja < 8) (hjb : jb < 8) (hjc : jc < 8) (hW : (if az_b Z 10 p < az_b Z 9 p then zs_b Z 10 p (az_b Z 10 p + 1) else Z) = W) : pm_W G l bs yX6_doWord.cls cX6_doWord 9 false 6 (zU W - zU Z) (49 * (zU W - zU Z)) (pm_xi (wQ Z Y E p W)) 562 [.ref (Y.1 0), .ref (Y.1 (pq p 0)), vo, .int a, .int b, .int c, .ref (Y.1 (pq p (10 + ja))), .ref (Y.1 (pq p (10 + jb))), .ref (Y.1 (pq p (10 + jc)))] [] S := by
  have hn := hI.1
  have hsm := hI.sm
  obtain ⟨h, hmk⟩ := id hx
  have hA := h.2.2.2.2.2.1
  obtain ⟨⟨hk0, hr0, hr1, hr2, hr3, hr4, hr5, hr6, hr7⟩, ⟨hk1, hl1⟩, ⟨hk2, hl2⟩, ⟨hk3, hl3⟩, ⟨hk4, hl4⟩, hWt, hSh, hLt, hCs⟩ := id h.2.2.1
  obtain ⟨kW, rW1, rW2, rW3, kW1, nW1, kW2, nW2, kW3, nW3, -⟩ := id hWt
  have hB := h.2.2.2.2.1 p hp
  obtain ⟨⟨pk0, pr1, pr2, pr4, pr6, ppid⟩, ⟨pk1, pn1, pz1⟩, hmb, hts⟩ := id (h.2.2.2.1 p hp)
  have h02 : az_b Z 1 p ≠ 2 := by omega
  have hta := hx.tm (j := ja) hp hja
  have htb := hx.tm (j := jb) hp hjb
  have htc := hx.tm (j := jc) hp hjc
  have hwa := hI.rg hp hja
  have hwb := hI.rg hp hjb
  have hwc := hI.rg hp hjc
  have hla := hwa.len
  have hlb := hwb.len
  have hlc := hwc.len
  have kta := hta.1.1
  have ktb := htb.1.1
  have ktc := htc.1.1
  generalize hQ9 : pm_xi (wQ Z Y E p W) = Q9
  refine pm_aload_n dX6_doWord_562 rfl ?_
  refine pm_ssi (c_X6_advance G l bs Z Y E s p _ hx hI hp) pm_y_X6_advance pm_s_X6_advance pm_m_X6_277 dX6_doWord_563 rfl rfl (by decide) (Nat.le_of_ble_eq_true rfl) (fun x563 S563 h563 => ?_)
  obtain ⟨rfl, hx2⟩ := h563
  subst hQ9
  refine pm_iret dX6_doWord_566 ?_
  subst hW
  exact wok yLe.rf hx2

set_option maxHeartbeats 4000000 in
set_option maxRecDepth 100000 in
theorem w_27 (G : pm_G) (l : Launch) (bs : Nat) (Z : az) (Y : pm_Y) (E : pm_S) (s : Nat) (p ja jb jc : Nat) (a b c : Int32) (vo : Value) (W : az) (S : pm_S) (hx : pm_CX Z S Y E) (hI : zI s Z) (hp : p < az_a Z 0) (h0 : az_b Z 1 p = 0) (hja : ja < 8) (hjb : jb < 8) (hjc : jc < 8) (hW : (if az_b Z 10 p < az_b Z 9 p then zAt Z p (pm_mod a 300) else zs_e (zs_b (zs_b (zs_b Z 1 p 1) 3 p (pm_mod a 300)) 4 p (pm_mod a 300)) 1 p none) = W) : pm_W G l bs yX6_doWord.cls cX6_doWord 9 false 6 (zU W - zU Z) (49 * (zU W - zU Z)) (pm_xi (wQ Z Y E p W)) 567 [.ref (Y.1 0), .ref (Y.1 (pq p 0)), vo, .int a, .int b, .int c, .ref (Y.1 (pq p (10 + ja))), .ref (Y.1 (pq p (10 + jb))), .ref (Y.1 (pq p (10 + jc)))] [] S := by
  have hn := hI.1
  have hsm := hI.sm
  obtain ⟨h, hmk⟩ := id hx
  have hA := h.2.2.2.2.2.1
  obtain ⟨⟨hk0, hr0, hr1, hr2, hr3, hr4, hr5, hr6, hr7⟩, ⟨hk1, hl1⟩, ⟨hk2, hl2⟩, ⟨hk3, hl3⟩, ⟨hk4, hl4⟩, hWt, hSh, hLt, hCs⟩ := id h.2.2.1
  obtain ⟨kW, rW1, rW2, rW3, kW1, nW1, kW2, nW2, kW3, nW3, -⟩ := id hWt
  have hB := h.2.2.2.2.1 p hp
  obtain ⟨⟨pk0, pr1, pr2, pr4, pr6, ppid⟩, ⟨pk1, pn1, pz1⟩, hmb, hts⟩ := id (h.2.2.2.1 p hp)
  have h02 : az_b Z 1 p ≠ 2 := by omega
  have hta := hx.tm (j := ja) hp hja
  have htb := hx.tm (j := jb) hp hjb
  have htc := hx.tm (j := jc) hp hjc
  have hwa := hI.rg hp hja
  have hwb := hI.rg hp hjb
  have hwc := hI.rg hp hjc
  have hla := hwa.len
  have hlb := hwb.len
  have hlc := hwc.len
  have kta := hta.1.1
  have ktb := htb.1.1
  have ktc := htc.1.1
  generalize hQ9 : pm_xi (wQ Z Y E p W) = Q9
  refine pm_aload_n dX6_doWord_567 rfl ?_
  refine pm_iload_n dX6_doWord_568 rfl ?_
  refine pm_ssi (c_X6_place G l bs a _) pm_y_X6_place pm_s_X6_place pm_m_X6_194 dX6_doWord_569 rfl rfl (by decide) (Nat.le_of_ble_eq_true rfl) (fun x569 S569 h569 => ?_)
  obtain ⟨rfl, rfl⟩ := h569
  refine pm_ssi (c_X6_await G l bs Z Y E s p (pm_mod a 300) _ hx hI hp) pm_y_X6_await pm_s_X6_await pm_m_X6_280 dX6_doWord_572 rfl rfl (by decide) (Nat.le_of_ble_eq_true rfl) (fun x572 S572 h572 => ?_)
  obtain ⟨rfl, hx2⟩ := h572
  subst hQ9
  refine pm_iret dX6_doWord_575 ?_
  subst hW
  exact wok yLe.rf hx2

set_option maxHeartbeats 4000000 in
set_option maxRecDepth 100000 in
theorem w_28 (G : pm_G) (l : Launch) (bs : Nat) (Z : az) (Y : pm_Y) (E : pm_S) (s : Nat) (p ja jb jc : Nat) (a b c : Int32) (vo : Value) (W : az) (S : pm_S) (hx : pm_CX Z S Y E) (hI : zI s Z) (hp : p < az_a Z 0) (h0 : az_b Z 1 p = 0) (hja : ja < 8) (hjb : jb < 8) (hjc : jc < 8) (hW : (if az_b Z 10 p < az_b Z 9 p then zAt Z p (pm_mod a 300) else if zKind (az_t Z 0 p jb) ≠ 0 then zBad Z p else if zVal (az_t Z 0 p jb) < 1 then zAt (zs_b Z 10 p 0) p (pm_mod c 300) else zs_e (zs_b (zs_b (zs_b Z 1 p 1) 3 p (pm_mod a 300)) 4 p (pm_mod c 300)) 1 p (some (az_a Z 6 + (zVal (az_t Z 0 p jb)).toInt.toNat))) = W) : pm_W G l bs yX6_doWord.cls cX6_doWord 9 false 6 (zU W - zU Z) (49 * (zU W - zU Z)) (pm_xi (wQ Z Y E p W)) 576 [.ref (Y.1 0), .ref (Y.1 (pq p 0)), vo, .int a, .int b, .int c, .ref (Y.1 (pq p (10 + ja))), .ref (Y.1 (pq p (10 + jb))), .ref (Y.1 (pq p (10 + jc)))] [] S := by
  have hn := hI.1
  have hsm := hI.sm
  obtain ⟨h, hmk⟩ := id hx
  have hA := h.2.2.2.2.2.1
  obtain ⟨⟨hk0, hr0, hr1, hr2, hr3, hr4, hr5, hr6, hr7⟩, ⟨hk1, hl1⟩, ⟨hk2, hl2⟩, ⟨hk3, hl3⟩, ⟨hk4, hl4⟩, hWt, hSh, hLt, hCs⟩ := id h.2.2.1
  obtain ⟨kW, rW1, rW2, rW3, kW1, nW1, kW2, nW2, kW3, nW3, -⟩ := id hWt
  have hB := h.2.2.2.2.1 p hp
  obtain ⟨⟨pk0, pr1, pr2, pr4, pr6, ppid⟩, ⟨pk1, pn1, pz1⟩, hmb, hts⟩ := id (h.2.2.2.1 p hp)
  have h02 : az_b Z 1 p ≠ 2 := by omega
  have hta := hx.tm (j := ja) hp hja
  have htb := hx.tm (j := jb) hp hjb
  have htc := hx.tm (j := jc) hp hjc
  have hwa := hI.rg hp hja
  have hwb := hI.rg hp hjb
  have hwc := hI.rg hp hjc
  have hla := hwa.len
  have hlb := hwb.len
  have hlc := hwc.len
  have kta := hta.1.1
  have ktb := htb.1.1
  have ktc := htc.1.1
  generalize hQ9 : pm_xi (wQ Z Y E p W) = Q9
  refine pm_aload_n dX6_doWord_576 rfl ?_
  refine pm_aload_n dX6_doWord_577 rfl ?_
  refine pm_iload_n dX6_doWord_578 rfl ?_
  refine pm_ssi (c_X6_place G l bs a _) pm_y_X6_place pm_s_X6_place pm_m_X6_194 dX6_doWord_579 rfl rfl (by decide) (Nat.le_of_ble_eq_true rfl) (fun x579 S579 h579 => ?_)
  obtain ⟨rfl, rfl⟩ := h579
  refine pm_aload dX6_doWord_582 rfl ?_
  refine pm_iload dX6_doWord_584 rfl ?_
  refine pm_ssi (c_X6_place G l bs c _) pm_y_X6_place pm_s_X6_place pm_m_X6_194 dX6_doWord_586 rfl rfl (by decide) (Nat.le_of_ble_eq_true rfl) (fun x586 S586 h586 => ?_)
  obtain ⟨rfl, rfl⟩ := h586
  refine pm_vi (c_X6_awaitFor G l bs Z Y E s p (pm_mod a 300) (pm_mod c 300) (Y.1 (pq p (10 + jb))) (Y.1 (pq p (20 + jb))) (az_t Z 0 p jb) _ hx hI hp htb hlb.1) pm_y_X6_awaitFor pm_v_X6_awaitFor pm_m_X6_283 (c := 6) (r := (RX6, TX6, 16)) rfl rfl (by (try simp only [pm_k_si, pm_k_sj, pm_k_sp, pm_k_sx, pm_k_sz, pm_k_sr, pm_k_sy]); assumption) dX6_doWord_589 rfl rfl (by decide) (Nat.le_of_ble_eq_true rfl) (fun x589 S589 h589 => ?_)
  subst hQ9
  refine pm_iret dX6_doWord_592 ?_
  rcases h589 with ⟨k1, k2, rfl, rfl⟩ | ⟨k1, rfl, hx2⟩
  · exact wbad hx (by rw [← hW, if_neg k1, if_pos k2])
  · by_cases z : az_b Z 10 p < az_b Z 9 p
    · rw [if_pos z] at hW hx2; subst hW; exact wok yLe.rf hx2
    · have k2 : zKind (az_t Z 0 p jb) = 0 := by rcases k1 with q | q; exact absurd q z; exact q
      rw [if_neg z] at hW hx2
      rw [if_neg (fun q => q k2)] at hW
      subst hW; exact wok yLe.rf hx2

set_option maxHeartbeats 4000000 in
set_option maxRecDepth 100000 in
theorem w_29 (G : pm_G) (l : Launch) (bs : Nat) (Z : az) (Y : pm_Y) (E : pm_S) (s : Nat) (p ja jb jc : Nat) (a b c : Int32) (vo : Value) (W : az) (S : pm_S) (hx : pm_CX Z S Y E) (hI : zI s Z) (hp : p < az_a Z 0) (h0 : az_b Z 1 p = 0) (hja : ja < 8) (hjb : jb < 8) (hjc : jc < 8) (hW : (if zKind (az_t Z 0 p ja) ≠ 2 then zBad Z p else zLnk Z p (some (zPid (az_t Z 0 p ja)))) = W) : pm_W G l bs yX6_doWord.cls cX6_doWord 9 false 6 (zU W - zU Z) (49 * (zU W - zU Z)) (pm_xi (wQ Z Y E p W)) 593 [.ref (Y.1 0), .ref (Y.1 (pq p 0)), vo, .int a, .int b, .int c, .ref (Y.1 (pq p (10 + ja))), .ref (Y.1 (pq p (10 + jb))), .ref (Y.1 (pq p (10 + jc)))] [] S := by
  have hn := hI.1
  have hsm := hI.sm
  obtain ⟨h, hmk⟩ := id hx
  have hA := h.2.2.2.2.2.1
  obtain ⟨⟨hk0, hr0, hr1, hr2, hr3, hr4, hr5, hr6, hr7⟩, ⟨hk1, hl1⟩, ⟨hk2, hl2⟩, ⟨hk3, hl3⟩, ⟨hk4, hl4⟩, hWt, hSh, hLt, hCs⟩ := id h.2.2.1
  obtain ⟨kW, rW1, rW2, rW3, kW1, nW1, kW2, nW2, kW3, nW3, -⟩ := id hWt
  have hB := h.2.2.2.2.1 p hp
  obtain ⟨⟨pk0, pr1, pr2, pr4, pr6, ppid⟩, ⟨pk1, pn1, pz1⟩, hmb, hts⟩ := id (h.2.2.2.1 p hp)
  have h02 : az_b Z 1 p ≠ 2 := by omega
  have hta := hx.tm (j := ja) hp hja
  have htb := hx.tm (j := jb) hp hjb
  have htc := hx.tm (j := jc) hp hjc
  have hwa := hI.rg hp hja
  have hwb := hI.rg hp hjb
  have hwc := hI.rg hp hjc
  have hla := hwa.len
  have hlb := hwb.len
  have hlc := hwc.len
  have kta := hta.1.1
  have ktb := htb.1.1
  have ktc := htc.1.1
  generalize hQ9 : pm_xi (wQ Z Y E p W) = Q9
  have hb : zU (zLnk Z p (zTo Z (az_t Z 0 p ja))) - zU Z ≤ zU W - zU Z := by
    by_cases z : zKind (az_t Z 0 p ja) = 2
    · rw [if_neg (fun q => q z)] at hW
      rw [zTo_pid hwa z, ← hW]; exact Nat.le_refl _
    · rw [zTo_no z]; show zU Z - zU Z ≤ _; omega
  refine pm_aload_n dX6_doWord_593 rfl ?_
  refine pm_aload_n dX6_doWord_594 rfl ?_
  refine pm_aload_n dX6_doWord_595 rfl ?_
  refine pm_aload dX6_doWord_596 rfl ?_
  refine pm_vr (c_X6_findByTerm G l bs Z Y E (Y.1 (pq p (10 + ja))) (Y.1 (pq p (20 + ja))) (az_t Z 0 p ja) _ h hn hta (by omega)) pm_y_X6_findByTerm pm_v_X6_findByTerm pm_m_X6_287 (c := 6) (r := (RX6, TX6, 16)) rfl rfl (by (try simp only [pm_k_si, pm_k_sj, pm_k_sp, pm_k_sx, pm_k_sz, pm_k_sr, pm_k_sy]); assumption) dX6_doWord_598 rfl rfl (by decide) (Nat.le_of_ble_eq_true rfl) (fun x598 S598 h598 => ?_)
  obtain ⟨e1, rfl⟩ := h598
  rw [zTo_map (g := fun q => Y.1 (pq q 0))] at e1
  subst e1
  refine pm_vik (kc2 := 0) (ks2 := 0) (c_X6_link G l bs Z Y E s p (zTo Z (az_t Z 0 p ja)) _ hx hI hp zTo_lt) pm_y_X6_link pm_v_X6_link pm_m_X6_291 (c := 6) (r := (RX6, TX6, 16)) rfl rfl (by (try simp only [pm_k_si, pm_k_sj, pm_k_sp, pm_k_sx, pm_k_sz, pm_k_sr, pm_k_sy]); assumption) dX6_doWord_601 rfl rfl (by decide) (Nat.le_of_ble_eq_true rfl) (by omega) (by omega) (fun x601 S601 h601 => ?_)
  obtain ⟨rfl, Y2, hle, hx2⟩ := h601
  subst hQ9
  refine pm_iret dX6_doWord_604 ?_
  refine wgen hle hx2 ?_
  by_cases z : zKind (az_t Z 0 p ja) = 2
  · rw [if_neg (fun q => q z)] at hW
    rw [zTo_pid hwa z]
    exact Or.inl ⟨if_neg (by simp), hW⟩
  · rw [zTo_no z]
    rw [if_pos z] at hW
    exact Or.inr (Or.inl ⟨if_pos rfl, rfl, hW.symm⟩)

set_option maxHeartbeats 4000000 in
set_option maxRecDepth 100000 in
theorem w_30 (G : pm_G) (l : Launch) (bs : Nat) (Z : az) (Y : pm_Y) (E : pm_S) (s : Nat) (p ja jb jc : Nat) (a b c : Int32) (vo : Value) (W : az) (S : pm_S) (hx : pm_CX Z S Y E) (hI : zI s Z) (hp : p < az_a Z 0) (h0 : az_b Z 1 p = 0) (hja : ja < 8) (hjb : jb < 8) (hjc : jc < 8) (hW : (if zKind (az_t Z 0 p ja) ≠ 2 then zBad Z p else zLink Z p (zPid (az_t Z 0 p ja)) false) = W) : pm_W G l bs yX6_doWord.cls cX6_doWord 9 false 6 (zU W - zU Z) (49 * (zU W - zU Z)) (pm_xi (wQ Z Y E p W)) 605 [.ref (Y.1 0), .ref (Y.1 (pq p 0)), vo, .int a, .int b, .int c, .ref (Y.1 (pq p (10 + ja))), .ref (Y.1 (pq p (10 + jb))), .ref (Y.1 (pq p (10 + jc)))] [] S := by
  have hn := hI.1
  have hsm := hI.sm
  obtain ⟨h, hmk⟩ := id hx
  have hA := h.2.2.2.2.2.1
  obtain ⟨⟨hk0, hr0, hr1, hr2, hr3, hr4, hr5, hr6, hr7⟩, ⟨hk1, hl1⟩, ⟨hk2, hl2⟩, ⟨hk3, hl3⟩, ⟨hk4, hl4⟩, hWt, hSh, hLt, hCs⟩ := id h.2.2.1
  obtain ⟨kW, rW1, rW2, rW3, kW1, nW1, kW2, nW2, kW3, nW3, -⟩ := id hWt
  have hB := h.2.2.2.2.1 p hp
  obtain ⟨⟨pk0, pr1, pr2, pr4, pr6, ppid⟩, ⟨pk1, pn1, pz1⟩, hmb, hts⟩ := id (h.2.2.2.1 p hp)
  have h02 : az_b Z 1 p ≠ 2 := by omega
  have hta := hx.tm (j := ja) hp hja
  have htb := hx.tm (j := jb) hp hjb
  have htc := hx.tm (j := jc) hp hjc
  have hwa := hI.rg hp hja
  have hwb := hI.rg hp hjb
  have hwc := hI.rg hp hjc
  have hla := hwa.len
  have hlb := hwb.len
  have hlc := hwc.len
  have kta := hta.1.1
  have ktb := htb.1.1
  have ktc := htc.1.1
  generalize hQ9 : pm_xi (wQ Z Y E p W) = Q9
  refine pm_aload_n dX6_doWord_605 rfl ?_
  refine pm_aload_n dX6_doWord_606 rfl ?_
  refine pm_aload dX6_doWord_607 rfl ?_
  refine pm_vr (c_X6_findByTerm G l bs Z Y E (Y.1 (pq p (10 + ja))) (Y.1 (pq p (20 + ja))) (az_t Z 0 p ja) _ h hn hta (by omega)) pm_y_X6_findByTerm pm_v_X6_findByTerm pm_m_X6_287 (c := 6) (r := (RX6, TX6, 16)) rfl rfl (by (try simp only [pm_k_si, pm_k_sj, pm_k_sp, pm_k_sx, pm_k_sz, pm_k_sr, pm_k_sy]); assumption) dX6_doWord_609 rfl rfl (by decide) (Nat.le_of_ble_eq_true rfl) (fun x609 S609 h609 => ?_)
  obtain ⟨e1, rfl⟩ := h609
  rw [zTo_map (g := fun q => Y.1 (pq q 0))] at e1
  subst e1
  refine pm_ssi (c_X6_unlink G l bs Z Y E s p (zTo Z (az_t Z 0 p ja)) _ hx hI hp zTo_lt) pm_y_X6_unlink pm_s_X6_unlink pm_m_X6_295 dX6_doWord_612 rfl rfl (by decide) (Nat.le_of_ble_eq_true rfl) (fun x612 S612 h612 => ?_)
  subst hQ9
  refine pm_iret dX6_doWord_615 ?_
  by_cases z : zKind (az_t Z 0 p ja) = 2
  · rw [if_neg (fun q => q z)] at hW
    rcases h612 with ⟨e, -⟩ | ⟨r, e, rfl, hx2⟩
    · rw [zTo_pid hwa z] at e; cases e
    · rw [zTo_pid hwa z] at e
      obtain rfl := Option.some.inj e
      subst hW; exact wok yLe.rf hx2
  · rw [if_pos z] at hW
    rcases h612 with ⟨e, rfl, rfl⟩ | ⟨r, e, -⟩
    · exact wbad hx hW.symm
    · rw [zTo_no z] at e; cases e

set_option maxHeartbeats 4000000 in
set_option maxRecDepth 100000 in
theorem w_31 (G : pm_G) (l : Launch) (bs : Nat) (Z : az) (Y : pm_Y) (E : pm_S) (s : Nat) (p ja jb jc : Nat) (a b c : Int32) (vo : Value) (W : az) (S : pm_S) (hx : pm_CX Z S Y E) (hI : zI s Z) (hp : p < az_a Z 0) (h0 : az_b Z 1 p = 0) (hja : ja < 8) (hjb : jb < 8) (hjc : jc < 8) (hW : (if zKind (az_t Z 0 p jb) ≠ 2 then zBad Z p else if 200 ≤ (az_w Z).length then zLim Z p else zWt Z p ja (some (zPid (az_t Z 0 p jb)))) = W) : pm_W G l bs yX6_doWord.cls cX6_doWord 9 false 6 (zU W - zU Z) (49 * (zU W - zU Z)) (pm_xi (wQ Z Y E p W)) 616 [.ref (Y.1 0), .ref (Y.1 (pq p 0)), vo, .int a, .int b, .int c, .ref (Y.1 (pq p (10 + ja))), .ref (Y.1 (pq p (10 + jb))), .ref (Y.1 (pq p (10 + jc)))] [] S := by
  have hn := hI.1
  have hsm := hI.sm
  obtain ⟨h, hmk⟩ := id hx
  have hA := h.2.2.2.2.2.1
  obtain ⟨⟨hk0, hr0, hr1, hr2, hr3, hr4, hr5, hr6, hr7⟩, ⟨hk1, hl1⟩, ⟨hk2, hl2⟩, ⟨hk3, hl3⟩, ⟨hk4, hl4⟩, hWt, hSh, hLt, hCs⟩ := id h.2.2.1
  obtain ⟨kW, rW1, rW2, rW3, kW1, nW1, kW2, nW2, kW3, nW3, -⟩ := id hWt
  have hB := h.2.2.2.2.1 p hp
  obtain ⟨⟨pk0, pr1, pr2, pr4, pr6, ppid⟩, ⟨pk1, pn1, pz1⟩, hmb, hts⟩ := id (h.2.2.2.1 p hp)
  have h02 : az_b Z 1 p ≠ 2 := by omega
  have hta := hx.tm (j := ja) hp hja
  have htb := hx.tm (j := jb) hp hjb
  have htc := hx.tm (j := jc) hp hjc
  have hwa := hI.rg hp hja
  have hwb := hI.rg hp hjb
  have hwc := hI.rg hp hjc
  have hla := hwa.len
  have hlb := hwb.len
  have hlc := hwc.len
  have kta := hta.1.1
  have ktb := htb.1.1
  have ktc := htc.1.1
  generalize hQ9 : pm_xi (wQ Z Y E p W) = Q9
  have hb : zU (zWt Z p ja (zTo Z (az_t Z 0 p jb))) - zU Z ≤ zU W - zU Z := by
    by_cases z : zKind (az_t Z 0 p jb) = 2
    · rw [if_neg (fun q => q z)] at hW
      rw [zTo_pid hwb z]
      by_cases z2 : 200 ≤ (az_w Z).length
      · rw [show zWt Z p ja (some (zPid (az_t Z 0 p jb))) = Z from if_pos z2]; omega
      · rw [if_neg z2] at hW; rw [← hW]; exact Nat.le_refl _
    · rw [zTo_no z]; show zU Z - zU Z ≤ _; omega
  refine pm_aload_n dX6_doWord_616 rfl ?_
  refine pm_aload_n dX6_doWord_617 rfl ?_
  refine pm_aload dX6_doWord_618 rfl ?_
  refine pm_aload_n dX6_doWord_620 rfl ?_
  refine pm_aload dX6_doWord_621 rfl ?_
  refine pm_vr (c_X6_findByTerm G l bs Z Y E (Y.1 (pq p (10 + jb))) (Y.1 (pq p (20 + jb))) (az_t Z 0 p jb) _ h hn htb (by omega)) pm_y_X6_findByTerm pm_v_X6_findByTerm pm_m_X6_287 (c := 6) (r := (RX6, TX6, 16)) rfl rfl (by (try simp only [pm_k_si, pm_k_sj, pm_k_sp, pm_k_sx, pm_k_sz, pm_k_sr, pm_k_sy]); assumption) dX6_doWord_623 rfl rfl (by decide) (Nat.le_of_ble_eq_true rfl) (fun x623 S623 h623 => ?_)
  obtain ⟨e1, rfl⟩ := h623
  rw [zTo_map (g := fun q => Y.1 (pq q 0))] at e1
  subst e1
  refine pm_vik (kc2 := 0) (ks2 := 0) (c_X6_watch G l bs Z Y E s p ja (zTo Z (az_t Z 0 p jb)) _ hx hI hp zTo_lt hja) pm_y_X6_watch pm_v_X6_watch pm_m_X6_298 (c := 6) (r := (RX6, TX6, 16)) rfl rfl (by (try simp only [pm_k_si, pm_k_sj, pm_k_sp, pm_k_sx, pm_k_sz, pm_k_sr, pm_k_sy]); assumption) dX6_doWord_626 rfl rfl (by decide) (Nat.le_of_ble_eq_true rfl) (by omega) (by omega) (fun x626 S626 h626 => ?_)
  obtain ⟨rfl, Y2, hle, hx2⟩ := h626
  subst hQ9
  refine pm_iret dX6_doWord_629 ?_
  refine wgen hle hx2 ?_
  by_cases z : zKind (az_t Z 0 p jb) = 2
  · rw [if_neg (fun q => q z)] at hW
    rw [zTo_pid hwb z, if_neg (by simp)]
    by_cases z2 : 200 ≤ (az_w Z).length
    · rw [if_pos z2] at hW ⊢
      exact Or.inr (Or.inr ⟨rfl, by unfold zWt; exact if_pos z2, hW.symm⟩)
    · rw [if_neg z2] at hW ⊢
      exact Or.inl ⟨rfl, hW⟩
  · rw [zTo_no z]
    rw [if_pos z] at hW
    exact Or.inr (Or.inl ⟨if_pos rfl, rfl, hW.symm⟩)

set_option maxHeartbeats 4000000 in
set_option maxRecDepth 100000 in
theorem w_32 (G : pm_G) (l : Launch) (bs : Nat) (Z : az) (Y : pm_Y) (E : pm_S) (s : Nat) (p ja jb jc : Nat) (a b c : Int32) (vo : Value) (W : az) (S : pm_S) (hx : pm_CX Z S Y E) (hI : zI s Z) (hp : p < az_a Z 0) (h0 : az_b Z 1 p = 0) (hja : ja < 8) (hjb : jb < 8) (hjc : jc < 8) (hW : (if zKind (az_t Z 0 p ja) ≠ 2 then zBad Z p else zExw Z p (some (zPid (az_t Z 0 p ja))) (az_t Z 0 p jb)) = W) : pm_W G l bs yX6_doWord.cls cX6_doWord 9 false 6 (zU W - zU Z) (49 * (zU W - zU Z)) (pm_xi (wQ Z Y E p W)) 630 [.ref (Y.1 0), .ref (Y.1 (pq p 0)), vo, .int a, .int b, .int c, .ref (Y.1 (pq p (10 + ja))), .ref (Y.1 (pq p (10 + jb))), .ref (Y.1 (pq p (10 + jc)))] [] S := by
  have hn := hI.1
  have hsm := hI.sm
  obtain ⟨h, hmk⟩ := id hx
  have hA := h.2.2.2.2.2.1
  obtain ⟨⟨hk0, hr0, hr1, hr2, hr3, hr4, hr5, hr6, hr7⟩, ⟨hk1, hl1⟩, ⟨hk2, hl2⟩, ⟨hk3, hl3⟩, ⟨hk4, hl4⟩, hWt, hSh, hLt, hCs⟩ := id h.2.2.1
  obtain ⟨kW, rW1, rW2, rW3, kW1, nW1, kW2, nW2, kW3, nW3, -⟩ := id hWt
  have hB := h.2.2.2.2.1 p hp
  obtain ⟨⟨pk0, pr1, pr2, pr4, pr6, ppid⟩, ⟨pk1, pn1, pz1⟩, hmb, hts⟩ := id (h.2.2.2.1 p hp)
  have h02 : az_b Z 1 p ≠ 2 := by omega
  have hta := hx.tm (j := ja) hp hja
  have htb := hx.tm (j := jb) hp hjb
  have htc := hx.tm (j := jc) hp hjc
  have hwa := hI.rg hp hja
  have hwb := hI.rg hp hjb
  have hwc := hI.rg hp hjc
  have hla := hwa.len
  have hlb := hwb.len
  have hlc := hwc.len
  have kta := hta.1.1
  have ktb := htb.1.1
  have ktc := htc.1.1
  generalize hQ9 : pm_xi (wQ Z Y E p W) = Q9
  have hb : zU (zExw Z p (zTo Z (az_t Z 0 p ja)) (az_t Z 0 p jb)) - zU Z ≤ zU W - zU Z := by
    by_cases z : zKind (az_t Z 0 p ja) = 2
    · rw [if_neg (fun q => q z)] at hW
      rw [zTo_pid hwa z, ← hW]; exact Nat.le_refl _
    · rw [zTo_no z]; show zU Z - zU Z ≤ _; omega
  refine pm_aload_n dX6_doWord_630 rfl ?_
  refine pm_aload_n dX6_doWord_631 rfl ?_
  refine pm_aload_n dX6_doWord_632 rfl ?_
  refine pm_aload dX6_doWord_633 rfl ?_
  refine pm_vr (c_X6_findByTerm G l bs Z Y E (Y.1 (pq p (10 + ja))) (Y.1 (pq p (20 + ja))) (az_t Z 0 p ja) _ h hn hta (by omega)) pm_y_X6_findByTerm pm_v_X6_findByTerm pm_m_X6_287 (c := 6) (r := (RX6, TX6, 16)) rfl rfl (by (try simp only [pm_k_si, pm_k_sj, pm_k_sp, pm_k_sx, pm_k_sz, pm_k_sr, pm_k_sy]); assumption) dX6_doWord_635 rfl rfl (by decide) (Nat.le_of_ble_eq_true rfl) (fun x635 S635 h635 => ?_)
  obtain ⟨e1, rfl⟩ := h635
  rw [zTo_map (g := fun q => Y.1 (pq q 0))] at e1
  subst e1
  refine pm_aload dX6_doWord_638 rfl ?_
  refine pm_vik (kc2 := 0) (ks2 := 0) (c_X6_exit G l bs Z Y E s p (zTo Z (az_t Z 0 p ja)) (Y.1 (pq p (10 + jb))) (Y.1 (pq p (20 + jb))) (az_t Z 0 p jb) _ hx hI hp zTo_lt htb hwb (hx.lt hp (lv_p hp (by omega)) (by decide)) (hx.lt hp (lv_r hp hjb) (by decide))) pm_y_X6_exit pm_v_X6_exit pm_m_X6_302 (c := 6) (r := (RX6, TX6, 16)) rfl rfl (by (try simp only [pm_k_si, pm_k_sj, pm_k_sp, pm_k_sx, pm_k_sz, pm_k_sr, pm_k_sy]); assumption) dX6_doWord_640 rfl rfl (by decide) (Nat.le_of_ble_eq_true rfl) (by omega) (by omega) (fun x640 S640 h640 => ?_)
  obtain ⟨rfl, Y2, hle, hx2⟩ := h640
  subst hQ9
  refine pm_iret dX6_doWord_643 ?_
  refine wgen hle hx2 ?_
  by_cases z : zKind (az_t Z 0 p ja) = 2
  · rw [if_neg (fun q => q z)] at hW
    rw [zTo_pid hwa z]
    exact Or.inl ⟨if_neg (by simp), hW⟩
  · rw [zTo_no z]
    rw [if_pos z] at hW
    exact Or.inr (Or.inl ⟨if_pos rfl, rfl, hW.symm⟩)

set_option maxHeartbeats 4000000 in
set_option maxRecDepth 100000 in
theorem w_33 (G : pm_G) (l : Launch) (bs : Nat) (Z : az) (Y : pm_Y) (E : pm_S) (s : Nat) (p ja jb jc : Nat) (a b c : Int32) (vo : Value) (W : az) (S : pm_S) (hx : pm_CX Z S Y E) (hI : zI s Z) (hp : p < az_a Z 0) (h0 : az_b Z 1 p = 0) (hja : ja < 8) (hjb : jb < 8) (hjc : jc < 8) (hW : zs_b Z 11 p (if a = 0 then 0 else 1) = W) : pm_W G l bs yX6_doWord.cls cX6_doWord 9 false 6 (zU W - zU Z) (49 * (zU W - zU Z)) (pm_xi (wQ Z Y E p W)) 644 [.ref (Y.1 0), .ref (Y.1 (pq p 0)), vo, .int a, .int b, .int c, .ref (Y.1 (pq p (10 + ja))), .ref (Y.1 (pq p (10 + jb))), .ref (Y.1 (pq p (10 + jc)))] [] S := by
  have hn := hI.1
  have hsm := hI.sm
  obtain ⟨h, hmk⟩ := id hx
  have hA := h.2.2.2.2.2.1
  obtain ⟨⟨hk0, hr0, hr1, hr2, hr3, hr4, hr5, hr6, hr7⟩, ⟨hk1, hl1⟩, ⟨hk2, hl2⟩, ⟨hk3, hl3⟩, ⟨hk4, hl4⟩, hWt, hSh, hLt, hCs⟩ := id h.2.2.1
  obtain ⟨kW, rW1, rW2, rW3, kW1, nW1, kW2, nW2, kW3, nW3, -⟩ := id hWt
  have hB := h.2.2.2.2.1 p hp
  obtain ⟨⟨pk0, pr1, pr2, pr4, pr6, ppid⟩, ⟨pk1, pn1, pz1⟩, hmb, hts⟩ := id (h.2.2.2.1 p hp)
  have h02 : az_b Z 1 p ≠ 2 := by omega
  have hta := hx.tm (j := ja) hp hja
  have htb := hx.tm (j := jb) hp hjb
  have htc := hx.tm (j := jc) hp hjc
  have hwa := hI.rg hp hja
  have hwb := hI.rg hp hjb
  have hwc := hI.rg hp hjc
  have hla := hwa.len
  have hlb := hwb.len
  have hlc := hwc.len
  have kta := hta.1.1
  have ktb := htb.1.1
  have ktc := htc.1.1
  generalize hQ9 : pm_xi (wQ Z Y E p W) = Q9
  refine pm_aload_n dX6_doWord_644 rfl ?_
  refine pm_iload_n dX6_doWord_645 rfl ?_
  refine pm_if_eq (tgt := 653) dX6_doWord_646 (by decide) (fun h646 => ?_) (fun h646 => ?_)
  · skip
    have hk : a = 0 := h646
    rw [if_pos hk] at hW
    obtain ⟨v9, hv9⟩ : ∃ v9 : Nat, v9 = 0 := ⟨_, rfl⟩
    refine pm_iconst (v := 0) dX6_doWord_653 (by decide) ?_
    refine pm_ssi (c_X6_trap G l bs Z Y E s p _ v9 _ hx hI hp (by rw [hv9]; rfl) (by omega)) pm_y_X6_trap pm_s_X6_trap pm_m_X6_306 dX6_doWord_654 rfl rfl (by decide) (Nat.le_of_ble_eq_true rfl) (fun x654 S654 h654 => ?_)
    obtain ⟨rfl, hx2⟩ := h654
    subst hQ9
    refine pm_iret dX6_doWord_657 ?_
    subst hv9
    subst hW
    exact wok yLe.rf hx2
  · skip
    have hk : ¬ a = 0 := h646
    rw [if_neg hk] at hW
    obtain ⟨v9, hv9⟩ : ∃ v9 : Nat, v9 = 1 := ⟨_, rfl⟩
    refine pm_iconst (v := 1) dX6_doWord_649 (by decide) ?_
    refine pm_goto (tgt := 654) dX6_doWord_650 (by decide) ?_
    refine pm_ssi (c_X6_trap G l bs Z Y E s p _ v9 _ hx hI hp (by rw [hv9]; rfl) (by omega)) pm_y_X6_trap pm_s_X6_trap pm_m_X6_306 dX6_doWord_654 rfl rfl (by decide) (Nat.le_of_ble_eq_true rfl) (fun x654 S654 h654 => ?_)
    obtain ⟨rfl, hx2⟩ := h654
    subst hQ9
    refine pm_iret dX6_doWord_657 ?_
    subst hv9
    subst hW
    exact wok yLe.rf hx2

set_option maxHeartbeats 4000000 in
set_option maxRecDepth 100000 in
theorem w_34 (G : pm_G) (l : Launch) (bs : Nat) (Z : az) (Y : pm_Y) (E : pm_S) (s : Nat) (p ja jb jc : Nat) (a b c : Int32) (vo : Value) (W : az) (S : pm_S) (hx : pm_CX Z S Y E) (hI : zI s Z) (hp : p < az_a Z 0) (h0 : az_b Z 1 p = 0) (hja : ja < 8) (hjb : jb < 8) (hjc : jc < 8) (hW : (if az_e Z 0 p = none ∧ az_e Z 2 (pm_mod a 100) = none then zs_e (zs_e Z 0 p (some (pm_mod a 100))) 2 (pm_mod a 100) (some p) else zBad Z p) = W) : pm_W G l bs yX6_doWord.cls cX6_doWord 9 false 6 (zU W - zU Z) (49 * (zU W - zU Z)) (pm_xi (wQ Z Y E p W)) 658 [.ref (Y.1 0), .ref (Y.1 (pq p 0)), vo, .int a, .int b, .int c, .ref (Y.1 (pq p (10 + ja))), .ref (Y.1 (pq p (10 + jb))), .ref (Y.1 (pq p (10 + jc)))] [] S := by
  have hn := hI.1
  have hsm := hI.sm
  obtain ⟨h, hmk⟩ := id hx
  have hA := h.2.2.2.2.2.1
  obtain ⟨⟨hk0, hr0, hr1, hr2, hr3, hr4, hr5, hr6, hr7⟩, ⟨hk1, hl1⟩, ⟨hk2, hl2⟩, ⟨hk3, hl3⟩, ⟨hk4, hl4⟩, hWt, hSh, hLt, hCs⟩ := id h.2.2.1
  obtain ⟨kW, rW1, rW2, rW3, kW1, nW1, kW2, nW2, kW3, nW3, -⟩ := id hWt
  have hB := h.2.2.2.2.1 p hp
  obtain ⟨⟨pk0, pr1, pr2, pr4, pr6, ppid⟩, ⟨pk1, pn1, pz1⟩, hmb, hts⟩ := id (h.2.2.2.1 p hp)
  have h02 : az_b Z 1 p ≠ 2 := by omega
  have hta := hx.tm (j := ja) hp hja
  have htb := hx.tm (j := jb) hp hjb
  have htc := hx.tm (j := jc) hp hjc
  have hwa := hI.rg hp hja
  have hwb := hI.rg hp hjb
  have hwc := hI.rg hp hjc
  have hla := hwa.len
  have hlb := hwb.len
  have hlc := hwc.len
  have kta := hta.1.1
  have ktb := htb.1.1
  have ktc := htc.1.1
  generalize hQ9 : pm_xi (wQ Z Y E p W) = Q9
  refine pm_aload_n dX6_doWord_658 rfl ?_
  refine pm_aload_n dX6_doWord_659 rfl ?_
  refine pm_iload_n dX6_doWord_660 rfl ?_
  refine pm_bipush (v := 100) dX6_doWord_661 (by decide) ?_
  refine pm_ssi (c_J9_floorMod G l bs a 100 _ (by decide) (by decide)) pm_y_J9_floorMod_7cf53 pm_s_J9_floorMod_7cf53 pm_m_X6_161 dX6_doWord_663 rfl rfl (by decide) (Nat.le_of_ble_eq_true rfl) (fun x663 S663 h663 => ?_)
  obtain ⟨rfl, rfl⟩ := h663
  refine pm_vi (c_X6_takeName G l bs Z Y E s p (pm_mod a 100) _ hx hI hp (pm_mod_lt a (by decide))) pm_y_X6_takeName pm_v_X6_takeName pm_m_X6_310 (c := 6) (r := (RX6, TX6, 16)) rfl rfl (by (try simp only [pm_k_si, pm_k_sj, pm_k_sp, pm_k_sx, pm_k_sz, pm_k_sr, pm_k_sy]); assumption) dX6_doWord_666 rfl rfl (by decide) (Nat.le_of_ble_eq_true rfl) (fun x666 S666 h666 => ?_)
  subst hQ9
  refine pm_iret dX6_doWord_669 ?_
  rcases h666 with ⟨k1, k2, rfl, hx2⟩ | ⟨k1, rfl, rfl⟩
  · rw [if_pos ⟨k1, k2⟩] at hW; subst hW; exact wok yLe.rf hx2
  · exact wbad hx (by rw [← hW, if_neg k1])

set_option maxHeartbeats 4000000 in
set_option maxRecDepth 100000 in
theorem w_35 (G : pm_G) (l : Launch) (bs : Nat) (Z : az) (Y : pm_Y) (E : pm_S) (s : Nat) (p ja jb jc : Nat) (a b c : Int32) (vo : Value) (W : az) (S : pm_S) (hx : pm_CX Z S Y E) (hI : zI s Z) (hp : p < az_a Z 0) (h0 : az_b Z 1 p = 0) (hja : ja < 8) (hjb : jb < 8) (hjc : jc < 8) (hW : zs_t Z 0 p ja (zLk (az_e Z 2 (pm_mod b 100))) = W) : pm_W G l bs yX6_doWord.cls cX6_doWord 9 false 6 (zU W - zU Z) (49 * (zU W - zU Z)) (pm_xi (wQ Z Y E p W)) 670 [.ref (Y.1 0), .ref (Y.1 (pq p 0)), vo, .int a, .int b, .int c, .ref (Y.1 (pq p (10 + ja))), .ref (Y.1 (pq p (10 + jb))), .ref (Y.1 (pq p (10 + jc)))] [] S := by
  have hn := hI.1
  have hsm := hI.sm
  obtain ⟨h, hmk⟩ := id hx
  have hA := h.2.2.2.2.2.1
  obtain ⟨⟨hk0, hr0, hr1, hr2, hr3, hr4, hr5, hr6, hr7⟩, ⟨hk1, hl1⟩, ⟨hk2, hl2⟩, ⟨hk3, hl3⟩, ⟨hk4, hl4⟩, hWt, hSh, hLt, hCs⟩ := id h.2.2.1
  obtain ⟨kW, rW1, rW2, rW3, kW1, nW1, kW2, nW2, kW3, nW3, -⟩ := id hWt
  have hB := h.2.2.2.2.1 p hp
  obtain ⟨⟨pk0, pr1, pr2, pr4, pr6, ppid⟩, ⟨pk1, pn1, pz1⟩, hmb, hts⟩ := id (h.2.2.2.1 p hp)
  have h02 : az_b Z 1 p ≠ 2 := by omega
  have hta := hx.tm (j := ja) hp hja
  have htb := hx.tm (j := jb) hp hjb
  have htc := hx.tm (j := jc) hp hjc
  have hwa := hI.rg hp hja
  have hwb := hI.rg hp hjb
  have hwc := hI.rg hp hjc
  have hla := hwa.len
  have hlb := hwb.len
  have hlc := hwc.len
  have kta := hta.1.1
  have ktb := htb.1.1
  have ktc := htc.1.1
  generalize hQ9 : pm_xi (wQ Z Y E p W) = Q9
  refine pm_aload dX6_doWord_670 rfl ?_
  refine pm_aload_n dX6_doWord_672 rfl ?_
  refine pm_iload dX6_doWord_673 rfl ?_
  refine pm_bipush (v := 100) dX6_doWord_675 (by decide) ?_
  refine pm_ssi (c_J9_floorMod G l bs b 100 _ (by decide) (by decide)) pm_y_J9_floorMod_7cf53 pm_s_J9_floorMod_7cf53 pm_m_X6_161 dX6_doWord_677 rfl rfl (by decide) (Nat.le_of_ble_eq_true rfl) (fun x677 S677 h677 => ?_)
  obtain ⟨rfl, rfl⟩ := h677
  refine pm_vr (c_X6_findByName G l bs Z Y E (nI (pm_mod b 100)) _ h hn) pm_y_X6_findByName pm_v_X6_findByName pm_m_X6_313 (c := 6) (r := (RX6, TX6, 16)) rfl rfl (by (try simp only [pm_k_si, pm_k_sj, pm_k_sp, pm_k_sx, pm_k_sz, pm_k_sr, pm_k_sy]); assumption) dX6_doWord_680 rfl rfl (by decide) (Nat.le_of_ble_eq_true rfl) (fun x680 S680 h680 => ?_)
  obtain ⟨e1, rfl⟩ := h680
  have m1 := pm_mod_lt b (d := 100) (by decide)
  rw [nI_toInt (by omega), if_pos (by omega), Int.toNat_natCast] at e1
  subst e1
  refine pm_ssi (c_X6_lookUp G l bs Z Y E s (Y.1 (pq p (10 + ja))) (Y.1 (pq p (20 + ja))) (az_e Z 2 (pm_mod b 100)) _ hx hI hta.1 (fun q e => (hI.2.2.2.2.2.1.2 _ q e).2.1)) pm_y_X6_lookUp pm_s_X6_lookUp pm_m_X6_316 dX6_doWord_683 rfl rfl (by decide) (Nat.le_of_ble_eq_true rfl) (fun x683 S683 h683 => ?_)
  obtain ⟨rfl, f, t⟩ := h683
  subst hQ9
  refine pm_iret dX6_doWord_686 ?_
  subst hW
  exact wok yLe.rf (hx.rg hn hp hja f t)

set_option maxHeartbeats 4000000 in
set_option maxRecDepth 100000 in
theorem w_36 (G : pm_G) (l : Launch) (bs : Nat) (Z : az) (Y : pm_Y) (E : pm_S) (s : Nat) (p ja jb jc : Nat) (a b c : Int32) (vo : Value) (W : az) (S : pm_S) (hx : pm_CX Z S Y E) (hI : zI s Z) (hp : p < az_a Z 0) (h0 : az_b Z 1 p = 0) (hja : ja < 8) (hjb : jb < 8) (hjc : jc < 8) (hW : zPrint (az_t Z 0 p ja) Z = W) : pm_W G l bs yX6_doWord.cls cX6_doWord 9 false 6 (zU W - zU Z) (49 * (zU W - zU Z)) (pm_xi (wQ Z Y E p W)) 687 [.ref (Y.1 0), .ref (Y.1 (pq p 0)), vo, .int a, .int b, .int c, .ref (Y.1 (pq p (10 + ja))), .ref (Y.1 (pq p (10 + jb))), .ref (Y.1 (pq p (10 + jc)))] [] S := by
  have hn := hI.1
  have hsm := hI.sm
  obtain ⟨h, hmk⟩ := id hx
  have hA := h.2.2.2.2.2.1
  obtain ⟨⟨hk0, hr0, hr1, hr2, hr3, hr4, hr5, hr6, hr7⟩, ⟨hk1, hl1⟩, ⟨hk2, hl2⟩, ⟨hk3, hl3⟩, ⟨hk4, hl4⟩, hWt, hSh, hLt, hCs⟩ := id h.2.2.1
  obtain ⟨kW, rW1, rW2, rW3, kW1, nW1, kW2, nW2, kW3, nW3, -⟩ := id hWt
  have hB := h.2.2.2.2.1 p hp
  obtain ⟨⟨pk0, pr1, pr2, pr4, pr6, ppid⟩, ⟨pk1, pn1, pz1⟩, hmb, hts⟩ := id (h.2.2.2.1 p hp)
  have h02 : az_b Z 1 p ≠ 2 := by omega
  have hta := hx.tm (j := ja) hp hja
  have htb := hx.tm (j := jb) hp hjb
  have htc := hx.tm (j := jc) hp hjc
  have hwa := hI.rg hp hja
  have hwb := hI.rg hp hjb
  have hwc := hI.rg hp hjc
  have hla := hwa.len
  have hlb := hwb.len
  have hlc := hwc.len
  have kta := hta.1.1
  have ktb := htb.1.1
  have ktc := htc.1.1
  generalize hQ9 : pm_xi (wQ Z Y E p W) = Q9
  refine pm_aload_n dX6_doWord_687 rfl ?_
  refine pm_aload dX6_doWord_688 rfl ?_
  refine pm_vi (c_X6_print G l bs Z Y E s (Y.1 (pq p (10 + ja))) (Y.1 (pq p (20 + ja))) (az_t Z 0 p ja) _ hx hI hta (hx.lt hp (lv_r hp hja) (by decide)) hla.2.1) pm_y_X6_print pm_v_X6_print pm_m_X6_320 (c := 6) (r := (RX6, TX6, 16)) rfl rfl (by (try simp only [pm_k_si, pm_k_sj, pm_k_sp, pm_k_sx, pm_k_sz, pm_k_sr, pm_k_sy]); assumption) dX6_doWord_690 rfl rfl (by decide) (Nat.le_of_ble_eq_true rfl) (fun x690 S690 h690 => ?_)
  obtain ⟨rfl, hx2⟩ := h690
  subst hQ9
  refine pm_iret dX6_doWord_693 ?_
  subst hW
  exact wok yLe.rf hx2

