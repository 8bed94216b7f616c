/-! the reference: one word, whichever it is -/
set_option maxHeartbeats 4000000 in
set_option maxRecDepth 100000 in
theorem c_X7_simple (G : pm_G) (l : Launch) (bs : Nat) (A : Nat → Nat) (E : pm_S) (M : pm_N) (b : Nat) (Z : az) (s : Nat) (p n : Nat) (a bb c : Int32) (W : az) (S : pm_S) (hm : pm_MX M S A E) (hr : mR b Z M) (hI : zI s Z) (hcn : n < 15) (hp : p < az_a Z 0) (h0 : az_b Z 1 p = 0) (hW : zWord Z p n a bb c = W) : pm_M G l bs yX7_simple cX7_simple 10 none 6 0 0 [.ref (A 50), .int (nI p), .int (nI n), .int a, .int bb, .int (nI (8 * p + pm_mod a 8)), .int (nI (8 * p + pm_mod bb 8)), .int (nI (8 * p + pm_mod c 8)), .int (nI (pm_mod a 300))] S (pm_qv (fun S2 => ∃ M2, pm_MX M2 S2 A E ∧ mR b W M2)) := by
  refine pm_Mv (L := [.ref (A 50), .int (nI p), .int (nI n), .int a, .int bb, .int (nI (8 * p + pm_mod a 8)), .int (nI (8 * p + pm_mod bb 8)), .int (nI (8 * p + pm_mod c 8)), .int (nI (pm_mod a 300)), pm_u]) false (by decide +kernel) (fun h => by cases h) rfl (pm_en_1 rfl (pm_en_1 rfl (pm_en_1 rfl (pm_en_1 rfl (pm_en_1 rfl (pm_en_1 rfl (pm_en_1 rfl (pm_en_1 rfl (pm_en_1 rfl (pm_en_0 rfl)))))))))) ?_
  generalize hQ9 : pm_xv (fun S2 => ∃ M2, pm_MX M2 S2 A E ∧ mR b W M2) = Q9
  refine pm_iload_n dX7_simple_0 rfl ?_
  have ma := pm_mod_lt a (d := 8) (by decide)
  have mb := pm_mod_lt bb (d := 8) (by decide)
  have mc := pm_mod_lt c (d := 8) (by decide)
  subst hQ9
  match n, hcn, hW with
  | 0, _, hW =>
    refine pm_tableIn (tgt := 64) dX7_simple_1 (by decide) (by decide) rfl (by decide) ?_
    exact m_0 G l bs A E M b Z s p (pm_mod a 8) (pm_mod bb 8) (pm_mod c 8) a bb c _ _ pm_u pm_u W _ hm hr hI hp h0 ma mb mc hW
  | 1, _, hW =>
    refine pm_tableIn (tgt := 73) dX7_simple_1 (by decide) (by decide) rfl (by decide) ?_
    exact m_1 G l bs A E M b Z s p (pm_mod a 8) (pm_mod bb 8) (pm_mod c 8) a bb c _ _ pm_u pm_u W _ hm hr hI hp h0 ma mb mc hW
  | 2, _, hW =>
    refine pm_tableIn (tgt := 85) dX7_simple_1 (by decide) (by decide) rfl (by decide) ?_
    exact m_2 G l bs A E M b Z s p (pm_mod a 8) (pm_mod bb 8) (pm_mod c 8) a bb c _ _ pm_u pm_u W _ hm hr hI hp h0 ma mb mc hW
  | 3, _, hW =>
    refine pm_tableIn (tgt := 102) dX7_simple_1 (by decide) (by decide) rfl (by decide) ?_
    exact m_3 G l bs A E M b Z s p (pm_mod a 8) (pm_mod bb 8) (pm_mod c 8) a bb c _ _ pm_u pm_u W _ hm hr hI hp h0 ma mb mc hW
  | 4, _, hW =>
    refine pm_tableIn (tgt := 113) dX7_simple_1 (by decide) (by decide) rfl (by decide) ?_
    exact m_4 G l bs A E M b Z s p (pm_mod a 8) (pm_mod bb 8) (pm_mod c 8) a bb c pm_u _ pm_u pm_u W _ hm hr hI hp h0 ma mb mc hW
  | 5, _, hW =>
    refine pm_tableIn (tgt := 113) dX7_simple_1 (by decide) (by decide) rfl (by decide) ?_
    exact m_5 G l bs A E M b Z s p (pm_mod a 8) (pm_mod bb 8) (pm_mod c 8) a bb c pm_u _ pm_u pm_u W _ hm hr hI hp h0 ma mb mc hW
  | 6, _, hW =>
    refine pm_tableIn (tgt := 113) dX7_simple_1 (by decide) (by decide) rfl (by decide) ?_
    exact m_6 G l bs A E M b Z s p (pm_mod a 8) (pm_mod bb 8) (pm_mod c 8) a bb c pm_u _ pm_u pm_u W _ hm hr hI hp h0 ma mb mc hW
  | 7, _, hW =>
    refine pm_tableIn (tgt := 128) dX7_simple_1 (by decide) (by decide) rfl (by decide) ?_
    exact m_7 G l bs A E M b Z s p (pm_mod a 8) (pm_mod bb 8) (pm_mod c 8) a bb c _ _ pm_u pm_u W _ hm hr hI hp h0 ma mb mc hW
  | 8, _, hW =>
    refine pm_tableIn (tgt := 179) dX7_simple_1 (by decide) (by decide) rfl (by decide) ?_
    exact m_8 G l bs A E M b Z s p (pm_mod a 8) (pm_mod bb 8) (pm_mod c 8) a bb c pm_u _ pm_u pm_u W _ hm hr hI hp h0 ma mb mc hW
  | 9, _, hW =>
    refine pm_tableIn (tgt := 179) dX7_simple_1 (by decide) (by decide) rfl (by decide) ?_
    exact m_9 G l bs A E M b Z s p (pm_mod a 8) (pm_mod bb 8) (pm_mod c 8) a bb c pm_u _ pm_u pm_u W _ hm hr hI hp h0 ma mb mc hW
  | 10, _, hW =>
    refine pm_tableIn (tgt := 265) dX7_simple_1 (by decide) (by decide) rfl (by decide) ?_
    exact m_10 G l bs A E M b Z s p (pm_mod a 8) (pm_mod bb 8) (pm_mod c 8) a bb c _ _ pm_u pm_u W _ hm hr hI hp h0 ma mb mc hW
  | 11, _, hW =>
    refine pm_tableIn (tgt := 295) dX7_simple_1 (by decide) (by decide) rfl (by decide) ?_
    exact m_11 G l bs A E M b Z s p (pm_mod a 8) (pm_mod bb 8) (pm_mod c 8) a bb c _ _ pm_u pm_u W _ hm hr hI hp h0 ma mb mc hW
  | 12, _, hW =>
    refine pm_tableOut (tgt := 306) dX7_simple_1 (by decide) (by decide) ?_
    exact m_12 G l bs A E M b Z s p (pm_mod a 8) (pm_mod bb 8) (pm_mod c 8) a bb c pm_u _ pm_u pm_u W _ hm hr hI hp h0 ma mb mc hW
  | 13, _, hW =>
    refine pm_tableOut (tgt := 306) dX7_simple_1 (by decide) (by decide) ?_
    exact m_13 G l bs A E M b Z s p (pm_mod a 8) (pm_mod bb 8) (pm_mod c 8) a bb c pm_u _ pm_u pm_u W _ hm hr hI hp h0 ma mb mc hW
  | 14, _, hW =>
    refine pm_tableOut (tgt := 306) dX7_simple_1 (by decide) (by decide) ?_
    exact m_14 G l bs A E M b Z s p (pm_mod a 8) (pm_mod bb 8) (pm_mod c 8) a bb c pm_u _ pm_u pm_u W _ hm hr hI hp h0 ma mb mc hW
  | _ + 15, h, _ => exact absurd h (by omega)

set_option maxHeartbeats 4000000 in
set_option maxRecDepth 100000 in
theorem c_X7_calls (G : pm_G) (l : Launch) (bs : Nat) (A : Nat → Nat) (E : pm_S) (M : pm_N) (b : Nat) (Z : az) (s : Nat) (p n : Nat) (a bb c : Int32) (W : az) (S : pm_S) (hm : pm_MX M S A E) (hr : mR b Z M) (hI : zI s Z) (hcn : 15 ≤ n ∧ n < 23) (hp : p < az_a Z 0) (h0 : az_b Z 1 p = 0) (hW : zWord Z p n a bb c = W) : pm_M G l bs yX7_calls cX7_calls 8 none 4 0 0 [.ref (A 50), .int (nI p), .int (nI n), .int bb, .int (nI (8 * p + pm_mod a 8)), .int (nI (8 * p + pm_mod c 8)), .int (nI (pm_mod a 300))] S (pm_qv (fun S2 => ∃ M2, pm_MX M2 S2 A E ∧ mR b W M2)) := by
  refine pm_Mv (L := [.ref (A 50), .int (nI p), .int (nI n), .int bb, .int (nI (8 * p + pm_mod a 8)), .int (nI (8 * p + pm_mod c 8)), .int (nI (pm_mod a 300)), pm_u]) false (by decide +kernel) (fun h => by cases h) rfl (pm_en_1 rfl (pm_en_1 rfl (pm_en_1 rfl (pm_en_1 rfl (pm_en_1 rfl (pm_en_1 rfl (pm_en_1 rfl (pm_en_0 rfl)))))))) ?_
  generalize hQ9 : pm_xv (fun S2 => ∃ M2, pm_MX M2 S2 A E ∧ mR b W M2) = Q9
  refine pm_iload_n dX7_calls_0 rfl ?_
  have ma := pm_mod_lt a (d := 8) (by decide)
  have mb := pm_mod_lt bb (d := 8) (by decide)
  have mc := pm_mod_lt c (d := 8) (by decide)
  subst hQ9
  match n, hcn, hW with
  | 0, h, _ => exact absurd h (by omega)
  | 1, h, _ => exact absurd h (by omega)
  | 2, h, _ => exact absurd h (by omega)
  | 3, h, _ => exact absurd h (by omega)
  | 4, h, _ => exact absurd h (by omega)
  | 5, h, _ => exact absurd h (by omega)
  | 6, h, _ => exact absurd h (by omega)
  | 7, h, _ => exact absurd h (by omega)
  | 8, h, _ => exact absurd h (by omega)
  | 9, h, _ => exact absurd h (by omega)
  | 10, h, _ => exact absurd h (by omega)
  | 11, h, _ => exact absurd h (by omega)
  | 12, h, _ => exact absurd h (by omega)
  | 13, h, _ => exact absurd h (by omega)
  | 14, h, _ => exact absurd h (by omega)
  | 15, _, hW =>
    refine pm_tableIn (tgt := 40) dX7_calls_1 (by decide) (by decide) rfl (by decide) ?_
    exact m_15 G l bs A E M b Z s p (pm_mod a 8) (pm_mod bb 8) (pm_mod c 8) a bb c _ _ pm_u pm_u W _ hm hr hI hp h0 ma mb mc hW
  | 16, _, hW =>
    refine pm_tableIn (tgt := 104) dX7_calls_1 (by decide) (by decide) rfl (by decide) ?_
    exact m_16 G l bs A E M b Z s p (pm_mod a 8) (pm_mod bb 8) (pm_mod c 8) a bb c _ _ pm_u pm_u W _ hm hr hI hp h0 ma mb mc hW
  | 17, _, hW =>
    refine pm_tableIn (tgt := 157) dX7_calls_1 (by decide) (by decide) rfl (by decide) ?_
    exact m_17 G l bs A E M b Z s p (pm_mod a 8) (pm_mod bb 8) (pm_mod c 8) a bb c _ _ pm_u pm_u W _ hm hr hI hp h0 ma mb mc hW
  | 18, _, hW =>
    refine pm_tableIn (tgt := 231) dX7_calls_1 (by decide) (by decide) rfl (by decide) ?_
    exact m_18 G l bs A E M b Z s p (pm_mod a 8) (pm_mod bb 8) (pm_mod c 8) a bb c _ _ pm_u pm_u W _ hm hr hI hp h0 ma mb mc hW
  | 19, _, hW =>
    refine pm_tableIn (tgt := 257) dX7_calls_1 (by decide) (by decide) rfl (by decide) ?_
    exact m_19 G l bs A E M b Z s p (pm_mod a 8) (pm_mod bb 8) (pm_mod c 8) a bb c _ _ pm_u pm_u W _ hm hr hI hp h0 ma mb mc hW
  | 20, _, hW =>
    refine pm_tableIn (tgt := 277) dX7_calls_1 (by decide) (by decide) rfl (by decide) ?_
    exact m_20 G l bs A E M b Z s p (pm_mod a 8) (pm_mod bb 8) (pm_mod c 8) a bb c _ _ pm_u pm_u W _ hm hr hI hp h0 ma mb mc hW
  | 21, _, hW =>
    refine pm_tableOut (tgt := 290) dX7_calls_1 (by decide) (by decide) ?_
    refine m_21 G l bs A E M b Z s p (pm_mod a 8) (pm_mod bb 8) (pm_mod c 8) a bb c pm_u _ pm_u pm_u W _ hm hr hI hp h0 ma mb mc ?_
    rw [← hW]
    by_cases z : az_a Z 0 < 60
    · unfold zBg
      rw [if_pos z, if_pos z, if_neg (by decide)]
      exact (if_pos z).symm
    · rw [if_neg z]
      exact (if_neg z).symm
  | 22, _, hW =>
    refine pm_tableOut (tgt := 290) dX7_calls_1 (by decide) (by decide) ?_
    refine m_22 G l bs A E M b Z s p (pm_mod a 8) (pm_mod bb 8) (pm_mod c 8) a bb c pm_u _ pm_u pm_u W _ hm hr hI hp h0 ma mb mc ?_
    rw [← hW]
    by_cases z : az_a Z 0 < 60
    · unfold zBg
      rw [if_pos z, if_pos z, if_pos (by decide)]
      exact (if_pos z).symm
    · rw [if_neg z]
      exact (if_neg z).symm
  | _ + 23, h, _ => exact absurd h (by omega)

set_option maxHeartbeats 4000000 in
set_option maxRecDepth 100000 in
theorem c_X7_others (G : pm_G) (l : Launch) (bs : Nat) (A : Nat → Nat) (E : pm_S) (M : pm_N) (b : Nat) (Z : az) (s : Nat) (p n : Nat) (a bb c : Int32) (W : az) (S : pm_S) (hm : pm_MX M S A E) (hr : mR b Z M) (hI : zI s Z) (hcn : 29 ≤ n ∧ n < 37) (hp : p < az_a Z 0) (h0 : az_b Z 1 p = 0) (hW : zWord Z p n a bb c = W) : pm_M G l bs yX7_others cX7_others 8 none 5 0 0 [.ref (A 50), .int (nI p), .int (nI n), .int a, .int bb, .int (nI (8 * p + pm_mod a 8)), .int (nI (8 * p + pm_mod bb 8))] S (pm_qv (fun S2 => ∃ M2, pm_MX M2 S2 A E ∧ mR b W M2)) := by
  refine pm_Mv (L := [.ref (A 50), .int (nI p), .int (nI n), .int a, .int bb, .int (nI (8 * p + pm_mod a 8)), .int (nI (8 * p + pm_mod bb 8)), pm_u]) false (by decide +kernel) (fun h => by cases h) rfl (pm_en_1 rfl (pm_en_1 rfl (pm_en_1 rfl (pm_en_1 rfl (pm_en_1 rfl (pm_en_1 rfl (pm_en_1 rfl (pm_en_0 rfl)))))))) ?_
  generalize hQ9 : pm_xv (fun S2 => ∃ M2, pm_MX M2 S2 A E ∧ mR b W M2) = Q9
  refine pm_iload_n dX7_others_0 rfl ?_
  have ma := pm_mod_lt a (d := 8) (by decide)
  have mb := pm_mod_lt bb (d := 8) (by decide)
  have mc := pm_mod_lt c (d := 8) (by decide)
  subst hQ9
  match n, hcn, hW with
  | 0, h, _ => exact absurd h (by omega)
  | 1, h, _ => exact absurd h (by omega)
  | 2, h, _ => exact absurd h (by omega)
  | 3, h, _ => exact absurd h (by omega)
  | 4, h, _ => exact absurd h (by omega)
  | 5, h, _ => exact absurd h (by omega)
  | 6, h, _ => exact absurd h (by omega)
  | 7, h, _ => exact absurd h (by omega)
  | 8, h, _ => exact absurd h (by omega)
  | 9, h, _ => exact absurd h (by omega)
  | 10, h, _ => exact absurd h (by omega)
  | 11, h, _ => exact absurd h (by omega)
  | 12, h, _ => exact absurd h (by omega)
  | 13, h, _ => exact absurd h (by omega)
  | 14, h, _ => exact absurd h (by omega)
  | 15, h, _ => exact absurd h (by omega)
  | 16, h, _ => exact absurd h (by omega)
  | 17, h, _ => exact absurd h (by omega)
  | 18, h, _ => exact absurd h (by omega)
  | 19, h, _ => exact absurd h (by omega)
  | 20, h, _ => exact absurd h (by omega)
  | 21, h, _ => exact absurd h (by omega)
  | 22, h, _ => exact absurd h (by omega)
  | 23, h, _ => exact absurd h (by omega)
  | 24, h, _ => exact absurd h (by omega)
  | 25, h, _ => exact absurd h (by omega)
  | 26, h, _ => exact absurd h (by omega)
  | 27, h, _ => exact absurd h (by omega)
  | 28, h, _ => exact absurd h (by omega)
  | 29, _, hW =>
    refine pm_tableIn (tgt := 44) dX7_others_1 (by decide) (by decide) rfl (by decide) ?_
    exact m_29 G l bs A E M b Z s p (pm_mod a 8) (pm_mod bb 8) (pm_mod c 8) a bb c pm_u _ pm_u pm_u W _ hm hr hI hp h0 ma mb mc hW
  | 30, _, hW =>
    refine pm_tableIn (tgt := 44) dX7_others_1 (by decide) (by decide) rfl (by decide) ?_
    exact m_30 G l bs A E M b Z s p (pm_mod a 8) (pm_mod bb 8) (pm_mod c 8) a bb c pm_u _ pm_u pm_u W _ hm hr hI hp h0 ma mb mc hW
  | 31, _, hW =>
    refine pm_tableIn (tgt := 151) dX7_others_1 (by decide) (by decide) rfl (by decide) ?_
    refine m_31 G l bs A E M b Z s p (pm_mod a 8) (pm_mod bb 8) (pm_mod c 8) a bb c _ _ pm_u pm_u W _ hm hr hI hp h0 ma mb mc ?_
    rw [← hW]
    by_cases z : zKind (az_t Z 0 p (pm_mod bb 8)) ≠ 2
    · rw [if_pos z]; exact (if_pos z).symm
    · rw [if_neg z]
      refine Eq.trans ?_ (if_neg z).symm
      by_cases z2 : 200 ≤ (az_w Z).length
      · rw [if_pos z2]; exact (if_pos z2).symm
      · rw [if_neg z2]; refine Eq.trans ?_ (if_neg z2).symm; exact if_neg z2
  | 32, _, hW =>
    refine pm_tableIn (tgt := 312) dX7_others_1 (by decide) (by decide) rfl (by decide) ?_
    exact m_32 G l bs A E M b Z s p (pm_mod a 8) (pm_mod bb 8) (pm_mod c 8) a bb c _ _ pm_u pm_u W _ hm hr hI hp h0 ma mb mc hW
  | 33, _, hW =>
    refine pm_tableIn (tgt := 367) dX7_others_1 (by decide) (by decide) rfl (by decide) ?_
    exact m_33 G l bs A E M b Z s p (pm_mod a 8) (pm_mod bb 8) (pm_mod c 8) a bb c _ _ pm_u pm_u W _ hm hr hI hp h0 ma mb mc hW
  | 34, _, hW =>
    refine pm_tableIn (tgt := 385) dX7_others_1 (by decide) (by decide) rfl (by decide) ?_
    exact m_34 G l bs A E M b Z s p (pm_mod a 8) (pm_mod bb 8) (pm_mod c 8) a bb c _ _ pm_u pm_u W _ hm hr hI hp h0 ma mb mc hW
  | 35, _, hW =>
    refine pm_tableIn (tgt := 440) dX7_others_1 (by decide) (by decide) rfl (by decide) ?_
    refine m_35 G l bs A E M b Z s p (pm_mod a 8) (pm_mod bb 8) (pm_mod c 8) a bb c _ _ pm_u pm_u W _ hm hr hI hp h0 ma mb mc ?_
    rw [← hW]
    show _ = (match az_e Z 2 (pm_mod bb 100) with | some q => zs_t Z 0 p (pm_mod a 8) [2, nI (q + 1)] | none => zs_t Z 0 p (pm_mod a 8) [1, 3])
    cases az_e Z 2 (pm_mod bb 100) <;> rfl
  | 36, _, hW =>
    refine pm_tableOut (tgt := 487) dX7_others_1 (by decide) (by decide) ?_
    exact m_36 G l bs A E M b Z s p (pm_mod a 8) (pm_mod bb 8) (pm_mod c 8) a bb c _ _ pm_u pm_u W _ hm hr hI hp h0 ma mb mc hW
  | _ + 37, h, _ => exact absurd h (by omega)

set_option maxHeartbeats 4000000 in
set_option maxRecDepth 100000 in
theorem c_X7_mails (G : pm_G) (l : Launch) (bs : Nat) (A : Nat → Nat) (E : pm_S) (M : pm_N) (b : Nat) (Z : az) (s : Nat) (p n : Nat) (a bb c : Int32) (W : az) (S : pm_S) (hm : pm_MX M S A E) (hr : mR b Z M) (hI : zI s Z) (hcn : 23 ≤ n ∧ n < 29) (hp : p < az_a Z 0) (h0 : az_b Z 1 p = 0) (hW : zWord Z p n a bb c = W) : pm_M G l bs yX7_mails cX7_mails 11 none 5 0 0 [.ref (A 50), .int (nI p), .int (nI n), .int (nI (8 * p + pm_mod a 8)), .int (nI (8 * p + pm_mod bb 8)), .int (nI (pm_mod c 300)), .int (nI (pm_mod a 300))] S (pm_qv (fun S2 => ∃ M2, pm_MX M2 S2 A E ∧ mR b W M2)) := by
  have ma := pm_mod_lt a (d := 8) (by decide)
  have mb := pm_mod_lt bb (d := 8) (by decide)
  have mc := pm_mod_lt c (d := 8) (by decide)
  have hn := hI.1
  have hsm := hI.sm
  have h9b := hI.b9
  have b9 := h9b p hp
  have b10 : az_b Z 10 p ≤ 40 := hI.b hp 10
  refine pm_Mv (L := [.ref (A 50), .int (nI p), .int (nI n), .int (nI (8 * p + pm_mod a 8)), .int (nI (8 * p + pm_mod bb 8)), .int (nI (pm_mod c 300)), .int (nI (pm_mod a 300)), pm_u, pm_u, pm_u, pm_u]) false (by decide +kernel) (fun h => by cases h) rfl (pm_en_1 rfl (pm_en_1 rfl (pm_en_1 rfl (pm_en_1 rfl (pm_en_1 rfl (pm_en_1 rfl (pm_en_1 rfl (pm_en_0 rfl)))))))) ?_
  generalize hQ9 : pm_xv (fun S2 => ∃ M2, pm_MX M2 S2 A E ∧ mR b W M2) = Q9
  refine pm_aload_n dX7_mails_0 rfl ?_
  refine pm_g_Model_pointer hm.1 pm_f_X7_48 (hm.2.1 12 (by decide)).1 dX7_mails_1 ?_
  refine pm_iload_n dX7_mails_4 rfl ?_
  refine mm_iaload (n := _) hm (by decide) rfl (by show _ < 60; omega) dX7_mails_5 ?_
  refine pm_aload_n dX7_mails_6 rfl ?_
  refine pm_g_Model_mail hm.1 pm_f_X7_45 (hm.2.1 11 (by decide)).1 dX7_mails_7 ?_
  refine pm_iload_n dX7_mails_10 rfl ?_
  refine mm_iaload (n := _) hm (by decide) rfl (by show _ < 60; omega) dX7_mails_11 ?_
  rw [hr.B (s := 12) (i := 10) hp rfl, hr.B (s := 11) (i := 9) hp rfl]
  refine pm_icmp_ge (tgt := 19) dX7_mails_12 (by decide) (fun h12 => ?_) (fun h12 => ?_)
  · skip
    have gt : ¬ az_b Z 10 p < az_b Z 9 p := by have := (pm_nle (a := az_b Z 9 p) (b := az_b Z 10 p) (by omega) (by omega)).mp h12; omega
    have hth : (0 : Int32) = if az_b Z 10 p < az_b Z 9 p then 1 else 0 := (if_neg gt).symm
    refine pm_iconst (v := 0) dX7_mails_19 (by decide) ?_
    refine pm_istore dX7_mails_20 (by decide) ?_
    dsimp only [List.set]
    refine pm_sipush (v := 480) dX7_mails_22 (by decide) ?_
    refine pm_bipush (v := 40) dX7_mails_25 (by decide) ?_
    refine pm_iload_n dX7_mails_27 rfl ?_
    refine pm_imul dX7_mails_28 ?_
    refine pm_iadd dX7_mails_29 ?_
    refine pm_aload_n dX7_mails_30 rfl ?_
    refine pm_g_Model_pointer hm.1 pm_f_X7_48 (hm.2.1 12 (by decide)).1 dX7_mails_31 ?_
    refine pm_iload_n dX7_mails_34 rfl ?_
    refine mm_iaload (n := _) hm (by decide) rfl (by show _ < 60; omega) dX7_mails_35 ?_
    refine pm_iadd dX7_mails_36 ?_
    rw [hr.B (s := 12) (i := 10) hp rfl, show (480 : Int32) + 40 * nI p + nI (az_b Z 10 p) = nI (480 + 40 * p + az_b Z 10 p) from by rw [show (480 : Int32) = nI 480 from rfl, show (40 : Int32) = nI 40 from rfl, pk_mul, nI_add, nI_add]]
    refine pm_istore dX7_mails_37 (by decide) ?_
    dsimp only [List.set]
    refine pm_iload_n dX7_mails_39 rfl ?_
    subst hQ9
    match n, hcn, hW with
    | 0, h, _ => exact absurd h (by omega)
    | 1, h, _ => exact absurd h (by omega)
    | 2, h, _ => exact absurd h (by omega)
    | 3, h, _ => exact absurd h (by omega)
    | 4, h, _ => exact absurd h (by omega)
    | 5, h, _ => exact absurd h (by omega)
    | 6, h, _ => exact absurd h (by omega)
    | 7, h, _ => exact absurd h (by omega)
    | 8, h, _ => exact absurd h (by omega)
    | 9, h, _ => exact absurd h (by omega)
    | 10, h, _ => exact absurd h (by omega)
    | 11, h, _ => exact absurd h (by omega)
    | 12, h, _ => exact absurd h (by omega)
    | 13, h, _ => exact absurd h (by omega)
    | 14, h, _ => exact absurd h (by omega)
    | 15, h, _ => exact absurd h (by omega)
    | 16, h, _ => exact absurd h (by omega)
    | 17, h, _ => exact absurd h (by omega)
    | 18, h, _ => exact absurd h (by omega)
    | 19, h, _ => exact absurd h (by omega)
    | 20, h, _ => exact absurd h (by omega)
    | 21, h, _ => exact absurd h (by omega)
    | 22, h, _ => exact absurd h (by omega)
    | 23, _, hW =>
      refine pm_tableIn (tgt := 76) dX7_mails_40 (by decide) (by decide) rfl (by decide) ?_
      exact m_23 G l bs A E M b Z s p (pm_mod a 8) (pm_mod bb 8) (pm_mod c 8) a bb c _ _ pm_u pm_u W _ hm hr hI hp h0 ma mb mc _ hth ((zW23 (hI.rg hp ma)).trans hW)
    | 24, _, hW =>
      refine pm_tableIn (tgt := 158) dX7_mails_40 (by decide) (by decide) rfl (by decide) ?_
      exact m_24 G l bs A E M b Z s p (pm_mod a 8) (pm_mod bb 8) (pm_mod c 8) a bb c _ _ pm_u pm_u W _ hm hr hI hp h0 ma mb mc _ hth hW
    | 25, _, hW =>
      refine pm_tableIn (tgt := 185) dX7_mails_40 (by decide) (by decide) rfl (by decide) ?_
      exact m_25 G l bs A E M b Z s p (pm_mod a 8) (pm_mod bb 8) (pm_mod c 8) a bb c _ _ pm_u pm_u W _ hm hr hI hp h0 ma mb mc _ hth hW
    | 26, _, hW =>
      refine pm_tableIn (tgt := 269) dX7_mails_40 (by decide) (by decide) rfl (by decide) ?_
      exact m_26 G l bs A E M b Z s p (pm_mod a 8) (pm_mod bb 8) (pm_mod c 8) a bb c _ _ pm_u pm_u W _ hm hr hI hp h0 ma mb mc _ hth hW
    | 27, _, hW =>
      refine pm_tableIn (tgt := 291) dX7_mails_40 (by decide) (by decide) rfl (by decide) ?_
      exact m_27 G l bs A E M b Z s p (pm_mod a 8) (pm_mod bb 8) (pm_mod c 8) a bb c _ _ pm_u pm_u W _ hm hr hI hp h0 ma mb mc _ hth hW
    | 28, _, hW =>
      refine pm_tableOut (tgt := 317) dX7_mails_40 (by decide) (by decide) ?_
      exact m_28 G l bs A E M b Z s p (pm_mod a 8) (pm_mod bb 8) (pm_mod c 8) a bb c _ _ pm_u pm_u W _ hm hr hI hp h0 ma mb mc _ hth hW
    | _ + 29, h, _ => exact absurd h (by omega)
  · skip
    have gt : az_b Z 10 p < az_b Z 9 p := by rcases Nat.lt_or_ge (az_b Z 10 p) (az_b Z 9 p) with q | q; exact q; exact absurd ((pm_nle (a := az_b Z 9 p) (b := az_b Z 10 p) (by omega) (by omega)).mpr q) h12
    have hth : (1 : Int32) = if az_b Z 10 p < az_b Z 9 p then 1 else 0 := (if_pos gt).symm
    refine pm_iconst (v := 1) dX7_mails_15 (by decide) ?_
    refine pm_goto (tgt := 20) dX7_mails_16 (by decide) ?_
    refine pm_istore dX7_mails_20 (by decide) ?_
    dsimp only [List.set]
    refine pm_sipush (v := 480) dX7_mails_22 (by decide) ?_
    refine pm_bipush (v := 40) dX7_mails_25 (by decide) ?_
    refine pm_iload_n dX7_mails_27 rfl ?_
    refine pm_imul dX7_mails_28 ?_
    refine pm_iadd dX7_mails_29 ?_
    refine pm_aload_n dX7_mails_30 rfl ?_
    refine pm_g_Model_pointer hm.1 pm_f_X7_48 (hm.2.1 12 (by decide)).1 dX7_mails_31 ?_
    refine pm_iload_n dX7_mails_34 rfl ?_
    refine mm_iaload (n := _) hm (by decide) rfl (by show _ < 60; omega) dX7_mails_35 ?_
    refine pm_iadd dX7_mails_36 ?_
    rw [hr.B (s := 12) (i := 10) hp rfl, show (480 : Int32) + 40 * nI p + nI (az_b Z 10 p) = nI (480 + 40 * p + az_b Z 10 p) from by rw [show (480 : Int32) = nI 480 from rfl, show (40 : Int32) = nI 40 from rfl, pk_mul, nI_add, nI_add]]
    refine pm_istore dX7_mails_37 (by decide) ?_
    dsimp only [List.set]
    refine pm_iload_n dX7_mails_39 rfl ?_
    subst hQ9
    match n, hcn, hW with
    | 0, h, _ => exact absurd h (by omega)
    | 1, h, _ => exact absurd h (by omega)
    | 2, h, _ => exact absurd h (by omega)
    | 3, h, _ => exact absurd h (by omega)
    | 4, h, _ => exact absurd h (by omega)
    | 5, h, _ => exact absurd h (by omega)
    | 6, h, _ => exact absurd h (by omega)
    | 7, h, _ => exact absurd h (by omega)
    | 8, h, _ => exact absurd h (by omega)
    | 9, h, _ => exact absurd h (by omega)
    | 10, h, _ => exact absurd h (by omega)
    | 11, h, _ => exact absurd h (by omega)
    | 12, h, _ => exact absurd h (by omega)
    | 13, h, _ => exact absurd h (by omega)
    | 14, h, _ => exact absurd h (by omega)
    | 15, h, _ => exact absurd h (by omega)
    | 16, h, _ => exact absurd h (by omega)
    | 17, h, _ => exact absurd h (by omega)
    | 18, h, _ => exact absurd h (by omega)
    | 19, h, _ => exact absurd h (by omega)
    | 20, h, _ => exact absurd h (by omega)
    | 21, h, _ => exact absurd h (by omega)
    | 22, h, _ => exact absurd h (by omega)
    | 23, _, hW =>
      refine pm_tableIn (tgt := 76) dX7_mails_40 (by decide) (by decide) rfl (by decide) ?_
      exact m_23 G l bs A E M b Z s p (pm_mod a 8) (pm_mod bb 8) (pm_mod c 8) a bb c _ _ pm_u pm_u W _ hm hr hI hp h0 ma mb mc _ hth ((zW23 (hI.rg hp ma)).trans hW)
    | 24, _, hW =>
      refine pm_tableIn (tgt := 158) dX7_mails_40 (by decide) (by decide) rfl (by decide) ?_
      exact m_24 G l bs A E M b Z s p (pm_mod a 8) (pm_mod bb 8) (pm_mod c 8) a bb c _ _ pm_u pm_u W _ hm hr hI hp h0 ma mb mc _ hth hW
    | 25, _, hW =>
      refine pm_tableIn (tgt := 185) dX7_mails_40 (by decide) (by decide) rfl (by decide) ?_
      exact m_25 G l bs A E M b Z s p (pm_mod a 8) (pm_mod bb 8) (pm_mod c 8) a bb c _ _ pm_u pm_u W _ hm hr hI hp h0 ma mb mc _ hth hW
    | 26, _, hW =>
      refine pm_tableIn (tgt := 269) dX7_mails_40 (by decide) (by decide) rfl (by decide) ?_
      exact m_26 G l bs A E M b Z s p (pm_mod a 8) (pm_mod bb 8) (pm_mod c 8) a bb c _ _ pm_u pm_u W _ hm hr hI hp h0 ma mb mc _ hth hW
    | 27, _, hW =>
      refine pm_tableIn (tgt := 291) dX7_mails_40 (by decide) (by decide) rfl (by decide) ?_
      exact m_27 G l bs A E M b Z s p (pm_mod a 8) (pm_mod bb 8) (pm_mod c 8) a bb c _ _ pm_u pm_u W _ hm hr hI hp h0 ma mb mc _ hth hW
    | 28, _, hW =>
      refine pm_tableOut (tgt := 317) dX7_mails_40 (by decide) (by decide) ?_
      exact m_28 G l bs A E M b Z s p (pm_mod a 8) (pm_mod bb 8) (pm_mod c 8) a bb c _ _ pm_u pm_u W _ hm hr hI hp h0 ma mb mc _ hth hW
    | _ + 29, h, _ => exact absurd h (by omega)

