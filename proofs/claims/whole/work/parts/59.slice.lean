/-! ProcessMill: one word, whichever it is; a slice -/
theorem zPst_2 {Z : az} {u w : List Int32} (h : tW (az_a Z 0) u) (h2 : zKind u = 2) : zPst Z u w = zComes Z (zPid u) w := by
  have e : zAd Z u = some (zPid u) := by unfold zAd; rw [if_neg (by rw [h2]; decide), zTo_pid h h2]
  unfold zPst
  rw [e]
theorem zPst_1 {Z : az} {u w : List Int32} (h1 : zKind u = 1) : zPst Z u w = (match az_e Z 2 (zVal u).toInt.toNat with
      | some q => if (zVal u).toInt < 100 ∧ 0 ≤ (zVal u).toInt then zComes Z q w else Z
      | none => Z) := by
  have e : zAd Z u = if 0 ≤ (zVal u).toInt ∧ (zVal u).toInt < 100 then az_e Z 2 (zVal u).toInt.toNat else none := by unfold zAd; rw [if_pos h1]
  unfold zPst
  rw [e]
  by_cases z : 0 ≤ (zVal u).toInt ∧ (zVal u).toInt < 100
  · rw [if_pos z]
    cases az_e Z 2 (zVal u).toInt.toNat with
    | none => rfl
    | some q => show zComes Z q w = if _ then _ else _; rw [if_pos ⟨z.2, z.1⟩]
  · rw [if_neg z]
    cases az_e Z 2 (zVal u).toInt.toNat with
    | none => rfl
    | some q => show Z = if _ then _ else _; rw [if_neg (fun q => z ⟨q.2, q.1⟩)]
theorem zW23 {Z : az} {p : Nat} {u w : List Int32} (h : tW (az_a Z 0) u) : (if zKind u = 1 ∨ zKind u = 2 then zPst Z u w else zBad Z p) = (if zKind u = 2 then zComes Z (zPid u) w
    else if zKind u = 1 then (match az_e Z 2 (zVal u).toInt.toNat with
      | some q => if (zVal u).toInt < 100 ∧ 0 ≤ (zVal u).toInt then zComes Z q w else Z
      | none => Z)
    else zBad Z p) := by
  by_cases h2 : zKind u = 2
  · rw [if_pos (Or.inr h2), if_pos h2, zPst_2 h h2]
  · by_cases h1 : zKind u = 1
    · rw [if_pos (Or.inl h1), if_neg h2, if_pos h1, zPst_1 h1]
    · rw [if_neg (fun z => by rcases z with q | q; exact h1 q; exact h2 q), if_neg h2, if_neg h1]
set_option maxHeartbeats 4000000 in
set_option maxRecDepth 100000 in
theorem c_X6_doWord (G : pm_G) (l : Launch) (bs : Nat) (Z : az) (Y : pm_Y) (E : pm_S) (s : Nat) (p n : Nat) (a b c : Int32) (W : az) (S : pm_S) (hx : pm_CX Z S Y E) (hI : zI s Z) (hp : p < az_a Z 0) (h0 : az_b Z 1 p = 0) (hn36 : n ≤ 36) (hW : zWord Z p n a b c = W) : pm_M G l bs yX6_doWord cX6_doWord 9 (some .int) 6 (zU W - zU Z) (49 * (zU W - zU Z)) [.ref (Y.1 0), .ref (Y.1 (pq p 0)), .int (nI n), .int a, .int b, .int c] S (pm_qi (wQ Z Y E p W)) := by
  have hn := hI.1
  have hsm := hI.sm
  obtain ⟨h, hmk⟩ := id hx
  have hA := h.2.2.2.2.2.1
  obtain ⟨⟨hk0, hr0, hr1, hr2, hr3, hr4, hr5, hr6, hr7⟩, ⟨hk1, hl1⟩, ⟨hk2, hl2⟩, ⟨hk3, hl3⟩, ⟨hk4, hl4⟩, hWt, hSh, hLt, hCs⟩ := id h.2.2.1
  obtain ⟨kW, rW1, rW2, rW3, kW1, nW1, kW2, nW2, kW3, nW3, -⟩ := id hWt
  have hB := h.2.2.2.2.1 p hp
  obtain ⟨⟨pk0, pr1, pr2, pr4, pr6, ppid⟩, ⟨pk1, pn1, pz1⟩, hmb, hts⟩ := id (h.2.2.2.1 p hp)
  refine pm_Mi (L := [.ref (Y.1 0), .ref (Y.1 (pq p 0)), .int (nI n), .int a, .int b, .int c, pm_u, pm_u, pm_u]) (by decide +kernel) rfl (pm_en_1 rfl (pm_en_1 rfl (pm_en_1 rfl (pm_en_1 rfl (pm_en_1 rfl (pm_en_1 rfl (pm_en_0 rfl))))))) ?_
  generalize hQ9 : pm_xi (wQ Z Y E p W) = Q9
  refine pm_aload_n dX6_doWord_0 rfl ?_
  refine pm_iload_n dX6_doWord_1 rfl ?_
  refine pm_vr (c_X1_x G l bs (Y.1 (pq p 0)) (Y.1 (pq p 1)) a _ pk0 pr1 pk1 pn1) pm_y_X1_x pm_v_X1_x pm_m_X6_137 (c := 1) (r := (RX1, TX1, 16)) rfl rfl (by (try simp only [pm_k_si, pm_k_sj, pm_k_sp, pm_k_sx, pm_k_sz, pm_k_sr, pm_k_sy]); assumption) dX6_doWord_2 rfl rfl (by decide) (Nat.le_of_ble_eq_true rfl) (fun x2 S2 h2 => ?_)
  obtain ⟨e2, rfl⟩ := h2
  rw [pz1 _ (pm_mod_lt a (by decide))] at e2
  subst e2
  show pm_W _ _ _ _ _ _ _ _ _ _ _ _ _ [.ref _] _
  refine pm_astore dX6_doWord_5 (by decide) ?_
  dsimp only [List.set]
  refine pm_aload_n dX6_doWord_7 rfl ?_
  refine pm_iload dX6_doWord_8 rfl ?_
  refine pm_vr (c_X1_x G l bs (Y.1 (pq p 0)) (Y.1 (pq p 1)) b _ pk0 pr1 pk1 pn1) pm_y_X1_x pm_v_X1_x pm_m_X6_137 (c := 1) (r := (RX1, TX1, 16)) rfl rfl (by (try simp only [pm_k_si, pm_k_sj, pm_k_sp, pm_k_sx, pm_k_sz, pm_k_sr, pm_k_sy]); assumption) dX6_doWord_10 rfl rfl (by decide) (Nat.le_of_ble_eq_true rfl) (fun x10 S10 h10 => ?_)
  obtain ⟨e10, rfl⟩ := h10
  rw [pz1 _ (pm_mod_lt b (by decide))] at e10
  subst e10
  show pm_W _ _ _ _ _ _ _ _ _ _ _ _ _ [.ref _] _
  refine pm_astore dX6_doWord_13 (by decide) ?_
  dsimp only [List.set]
  refine pm_aload_n dX6_doWord_15 rfl ?_
  refine pm_iload dX6_doWord_16 rfl ?_
  refine pm_vr (c_X1_x G l bs (Y.1 (pq p 0)) (Y.1 (pq p 1)) c _ pk0 pr1 pk1 pn1) pm_y_X1_x pm_v_X1_x pm_m_X6_137 (c := 1) (r := (RX1, TX1, 16)) rfl rfl (by (try simp only [pm_k_si, pm_k_sj, pm_k_sp, pm_k_sx, pm_k_sz, pm_k_sr, pm_k_sy]); assumption) dX6_doWord_18 rfl rfl (by decide) (Nat.le_of_ble_eq_true rfl) (fun x18 S18 h18 => ?_)
  obtain ⟨e18, rfl⟩ := h18
  rw [pz1 _ (pm_mod_lt c (by decide))] at e18
  subst e18
  show pm_W _ _ _ _ _ _ _ _ _ _ _ _ _ [.ref _] _
  refine pm_astore dX6_doWord_21 (by decide) ?_
  dsimp only [List.set]
  refine pm_iload_n dX6_doWord_23 rfl ?_
  subst hQ9
  have ma := pm_mod_lt a (d := 8) (by decide)
  have mb := pm_mod_lt b (d := 8) (by decide)
  have mc := pm_mod_lt c (d := 8) (by decide)
  match n, hn36, hW with
  | 0, _, hW =>
    refine pm_tableIn (tgt := 184) dX6_doWord_24 (by decide) (by decide) rfl (by decide) ?_
    exact w_0 G l bs Z Y E s p (pm_mod a 8) (pm_mod b 8) (pm_mod c 8) a b c _ W _ hx hI hp h0 ma mb mc hW
  | 1, _, hW =>
    refine pm_tableIn (tgt := 190) dX6_doWord_24 (by decide) (by decide) rfl (by decide) ?_
    exact w_1 G l bs Z Y E s p (pm_mod a 8) (pm_mod b 8) (pm_mod c 8) a b c _ W _ hx hI hp h0 ma mb mc hW
  | 2, _, hW =>
    refine pm_tableIn (tgt := 199) dX6_doWord_24 (by decide) (by decide) rfl (by decide) ?_
    exact w_2 G l bs Z Y E s p (pm_mod a 8) (pm_mod b 8) (pm_mod c 8) a b c _ W _ hx hI hp h0 ma mb mc hW
  | 3, _, hW =>
    refine pm_tableIn (tgt := 213) dX6_doWord_24 (by decide) (by decide) rfl (by decide) ?_
    exact w_3 G l bs Z Y E s p (pm_mod a 8) (pm_mod b 8) (pm_mod c 8) a b c _ W _ hx hI hp h0 ma mb mc hW
  | 4, _, hW =>
    refine pm_tableIn (tgt := 221) dX6_doWord_24 (by decide) (by decide) rfl (by decide) ?_
    exact w_4 G l bs Z Y E s p (pm_mod a 8) (pm_mod b 8) (pm_mod c 8) a b c _ W _ hx hI hp h0 ma mb mc hW
  | 5, _, hW =>
    refine pm_tableIn (tgt := 253) dX6_doWord_24 (by decide) (by decide) rfl (by decide) ?_
    exact w_5 G l bs Z Y E s p (pm_mod a 8) (pm_mod b 8) (pm_mod c 8) a b c _ W _ hx hI hp h0 ma mb mc hW
  | 6, _, hW =>
    refine pm_tableIn (tgt := 285) dX6_doWord_24 (by decide) (by decide) rfl (by decide) ?_
    exact w_6 G l bs Z Y E s p (pm_mod a 8) (pm_mod b 8) (pm_mod c 8) a b c _ W _ hx hI hp h0 ma mb mc hW
  | 7, _, hW =>
    refine pm_tableIn (tgt := 317) dX6_doWord_24 (by decide) (by decide) rfl (by decide) ?_
    exact w_7 G l bs Z Y E s p (pm_mod a 8) (pm_mod b 8) (pm_mod c 8) a b c _ W _ hx hI hp h0 ma mb mc hW
  | 8, _, hW =>
    refine pm_tableIn (tgt := 335) dX6_doWord_24 (by decide) (by decide) rfl (by decide) ?_
    by_cases hk : zKind (az_t Z 0 p (pm_mod b 8)) = 3
    · exact w_8a G l bs Z Y E s p (pm_mod a 8) (pm_mod b 8) (pm_mod c 8) a b c _ W _ hx hI hp h0 ma mb mc hk ((if_pos hk).symm.trans hW)
    · exact w_8b G l bs Z Y E s p (pm_mod a 8) (pm_mod b 8) (pm_mod c 8) a b c _ W _ hx hI hp h0 ma mb mc hk ((if_neg hk).symm.trans hW)
  | 9, _, hW =>
    refine pm_tableIn (tgt := 351) dX6_doWord_24 (by decide) (by decide) rfl (by decide) ?_
    by_cases hk : zKind (az_t Z 0 p (pm_mod b 8)) = 3
    · exact w_9a G l bs Z Y E s p (pm_mod a 8) (pm_mod b 8) (pm_mod c 8) a b c _ W _ hx hI hp h0 ma mb mc hk ((if_pos hk).symm.trans hW)
    · exact w_9b G l bs Z Y E s p (pm_mod a 8) (pm_mod b 8) (pm_mod c 8) a b c _ W _ hx hI hp h0 ma mb mc hk ((if_neg hk).symm.trans hW)
  | 10, _, hW =>
    refine pm_tableIn (tgt := 367) dX6_doWord_24 (by decide) (by decide) rfl (by decide) ?_
    exact w_10 G l bs Z Y E s p (pm_mod a 8) (pm_mod b 8) (pm_mod c 8) a b c _ W _ hx hI hp h0 ma mb mc hW
  | 11, _, hW =>
    refine pm_tableIn (tgt := 379) dX6_doWord_24 (by decide) (by decide) rfl (by decide) ?_
    exact w_11 G l bs Z Y E s p (pm_mod a 8) (pm_mod b 8) (pm_mod c 8) a b c _ W _ hx hI hp h0 ma mb mc hW
  | 12, _, hW =>
    refine pm_tableIn (tgt := 386) dX6_doWord_24 (by decide) (by decide) rfl (by decide) ?_
    exact w_12 G l bs Z Y E s p (pm_mod a 8) (pm_mod b 8) (pm_mod c 8) a b c _ W _ hx hI hp h0 ma mb mc hW
  | 13, _, hW =>
    refine pm_tableIn (tgt := 407) dX6_doWord_24 (by decide) (by decide) rfl (by decide) ?_
    exact w_13 G l bs Z Y E s p (pm_mod a 8) (pm_mod b 8) (pm_mod c 8) a b c _ W _ hx hI hp h0 ma mb mc hW
  | 14, _, hW =>
    refine pm_tableIn (tgt := 428) dX6_doWord_24 (by decide) (by decide) rfl (by decide) ?_
    exact w_14 G l bs Z Y E s p (pm_mod a 8) (pm_mod b 8) (pm_mod c 8) a b c _ W _ hx hI hp h0 ma mb mc hW
  | 15, _, hW =>
    refine pm_tableIn (tgt := 449) dX6_doWord_24 (by decide) (by decide) rfl (by decide) ?_
    exact w_15 G l bs Z Y E s p (pm_mod a 8) (pm_mod b 8) (pm_mod c 8) a b c _ W _ hx hI hp h0 ma mb mc hW
  | 16, _, hW =>
    refine pm_tableIn (tgt := 458) dX6_doWord_24 (by decide) (by decide) rfl (by decide) ?_
    exact w_16 G l bs Z Y E s p (pm_mod a 8) (pm_mod b 8) (pm_mod c 8) a b c _ W _ hx hI hp h0 ma mb mc hW
  | 17, _, hW =>
    refine pm_tableIn (tgt := 464) dX6_doWord_24 (by decide) (by decide) rfl (by decide) ?_
    exact w_17 G l bs Z Y E s p (pm_mod a 8) (pm_mod b 8) (pm_mod c 8) a b c _ W _ hx hI hp h0 ma mb mc hW
  | 18, _, hW =>
    refine pm_tableIn (tgt := 484) dX6_doWord_24 (by decide) (by decide) rfl (by decide) ?_
    exact w_18 G l bs Z Y E s p (pm_mod a 8) (pm_mod b 8) (pm_mod c 8) a b c _ W _ hx hI hp h0 ma mb mc hW
  | 19, _, hW =>
    refine pm_tableIn (tgt := 489) dX6_doWord_24 (by decide) (by decide) rfl (by decide) ?_
    exact w_19 G l bs Z Y E s p (pm_mod a 8) (pm_mod b 8) (pm_mod c 8) a b c _ W _ hx hI hp h0 ma mb mc hW
  | 20, _, hW =>
    refine pm_tableIn (tgt := 497) dX6_doWord_24 (by decide) (by decide) rfl (by decide) ?_
    exact w_20 G l bs Z Y E s p (pm_mod a 8) (pm_mod b 8) (pm_mod c 8) a b c _ W _ hx hI hp h0 ma mb mc hW
  | 21, _, hW =>
    refine pm_tableIn (tgt := 508) dX6_doWord_24 (by decide) (by decide) rfl (by decide) ?_
    refine w_21 G l bs Z Y E s p (pm_mod a 8) (pm_mod b 8) (pm_mod c 8) a b c _ W _ hx hI hp h0 ma mb mc ?_
    rw [← hW]
    by_cases z : az_a Z 0 < 60
    · unfold zBg
      rw [if_pos z, if_pos z, if_neg (by decide)]
      exact (if_pos z).symm
    · rw [if_neg z]
      exact (if_neg z).symm
  | 22, _, hW =>
    refine pm_tableIn (tgt := 524) dX6_doWord_24 (by decide) (by decide) rfl (by decide) ?_
    refine w_22 G l bs Z Y E s p (pm_mod a 8) (pm_mod b 8) (pm_mod c 8) a b c _ W _ hx hI hp h0 ma mb mc ?_
    rw [← hW]
    by_cases z : az_a Z 0 < 60
    · unfold zBg
      rw [if_pos z, if_pos z, if_pos (by decide)]
      exact (if_pos z).symm
    · rw [if_neg z]
      exact (if_neg z).symm
  | 23, _, hW =>
    refine pm_tableIn (tgt := 540) dX6_doWord_24 (by decide) (by decide) rfl (by decide) ?_
    exact w_23 G l bs Z Y E s p (pm_mod a 8) (pm_mod b 8) (pm_mod c 8) a b c _ W _ hx hI hp h0 ma mb mc ((zW23 (hI.rg hp ma)).trans hW)
  | 24, _, hW =>
    refine pm_tableIn (tgt := 549) dX6_doWord_24 (by decide) (by decide) rfl (by decide) ?_
    exact w_24 G l bs Z Y E s p (pm_mod a 8) (pm_mod b 8) (pm_mod c 8) a b c _ W _ hx hI hp h0 ma mb mc hW
  | 25, _, hW =>
    refine pm_tableIn (tgt := 557) dX6_doWord_24 (by decide) (by decide) rfl (by decide) ?_
    exact w_25 G l bs Z Y E s p (pm_mod a 8) (pm_mod b 8) (pm_mod c 8) a b c _ W _ hx hI hp h0 ma mb mc hW
  | 26, _, hW =>
    refine pm_tableIn (tgt := 562) dX6_doWord_24 (by decide) (by decide) rfl (by decide) ?_
    exact w_26 G l bs Z Y E s p (pm_mod a 8) (pm_mod b 8) (pm_mod c 8) a b c _ W _ hx hI hp h0 ma mb mc hW
  | 27, _, hW =>
    refine pm_tableIn (tgt := 567) dX6_doWord_24 (by decide) (by decide) rfl (by decide) ?_
    exact w_27 G l bs Z Y E s p (pm_mod a 8) (pm_mod b 8) (pm_mod c 8) a b c _ W _ hx hI hp h0 ma mb mc hW
  | 28, _, hW =>
    refine pm_tableIn (tgt := 576) dX6_doWord_24 (by decide) (by decide) rfl (by decide) ?_
    exact w_28 G l bs Z Y E s p (pm_mod a 8) (pm_mod b 8) (pm_mod c 8) a b c _ W _ hx hI hp h0 ma mb mc hW
  | 29, _, hW =>
    refine pm_tableIn (tgt := 593) dX6_doWord_24 (by decide) (by decide) rfl (by decide) ?_
    exact w_29 G l bs Z Y E s p (pm_mod a 8) (pm_mod b 8) (pm_mod c 8) a b c _ W _ hx hI hp h0 ma mb mc hW
  | 30, _, hW =>
    refine pm_tableIn (tgt := 605) dX6_doWord_24 (by decide) (by decide) rfl (by decide) ?_
    exact w_30 G l bs Z Y E s p (pm_mod a 8) (pm_mod b 8) (pm_mod c 8) a b c _ W _ hx hI hp h0 ma mb mc hW
  | 31, _, hW =>
    refine pm_tableIn (tgt := 616) dX6_doWord_24 (by decide) (by decide) rfl (by decide) ?_
    refine w_31 G l bs Z Y E s p (pm_mod a 8) (pm_mod b 8) (pm_mod c 8) a b c _ W _ hx hI hp h0 ma mb mc ?_
    rw [← hW]
    by_cases z : zKind (az_t Z 0 p (pm_mod b 8)) ≠ 2
    · rw [if_pos z]; exact (if_pos z).symm
    · rw [if_neg z]
      refine Eq.trans ?_ (if_neg z).symm
      by_cases z2 : 200 ≤ (az_w Z).length
      · rw [if_pos z2]; exact (if_pos z2).symm
      · rw [if_neg z2]; refine Eq.trans ?_ (if_neg z2).symm; exact if_neg z2
  | 32, _, hW =>
    refine pm_tableIn (tgt := 630) dX6_doWord_24 (by decide) (by decide) rfl (by decide) ?_
    exact w_32 G l bs Z Y E s p (pm_mod a 8) (pm_mod b 8) (pm_mod c 8) a b c _ W _ hx hI hp h0 ma mb mc hW
  | 33, _, hW =>
    refine pm_tableIn (tgt := 644) dX6_doWord_24 (by decide) (by decide) rfl (by decide) ?_
    exact w_33 G l bs Z Y E s p (pm_mod a 8) (pm_mod b 8) (pm_mod c 8) a b c _ W _ hx hI hp h0 ma mb mc hW
  | 34, _, hW =>
    refine pm_tableIn (tgt := 658) dX6_doWord_24 (by decide) (by decide) rfl (by decide) ?_
    exact w_34 G l bs Z Y E s p (pm_mod a 8) (pm_mod b 8) (pm_mod c 8) a b c _ W _ hx hI hp h0 ma mb mc hW
  | 35, _, hW =>
    refine pm_tableIn (tgt := 670) dX6_doWord_24 (by decide) (by decide) rfl (by decide) ?_
    refine w_35 G l bs Z Y E s p (pm_mod a 8) (pm_mod b 8) (pm_mod c 8) a b c _ W _ hx hI hp h0 ma mb mc ?_
    rw [← hW]
    show _ = (match az_e Z 2 (pm_mod b 100) with | some q => zs_t Z 0 p (pm_mod a 8) [2, nI (q + 1)] | none => zs_t Z 0 p (pm_mod a 8) [1, 3])
    cases az_e Z 2 (pm_mod b 100) <;> rfl
  | 36, _, hW =>
    refine pm_tableOut (tgt := 687) dX6_doWord_24 (by decide) (by decide) ?_
    exact w_36 G l bs Z Y E s p (pm_mod a 8) (pm_mod b 8) (pm_mod c 8) a b c _ W _ hx hI hp h0 ma mb mc hW
  | _ + 37, h37, _ => exact absurd h37 (by omega)

/-! the program stays as it is -/
theorem zx_comes (Z : az) (p : Nat) (w : List Int32) : az_x (zComes Z p w) = az_x Z := by
  unfold zComes
  split
  · dsimp only
    split <;> rfl
  · rfl
theorem zx_dies (Z : az) (p : Nat) (w : List Int32) : az_x (zDies Z p w) = az_x Z := by
  unfold zDies
  dsimp only
  split <;> rfl
theorem zx_exit (Z : az) (q p : Nat) (w : List Int32) (b : Bool) : az_x (zExit Z q p w b) = az_x Z := by
  unfold zExit
  split
  · rfl
  · split
    · exact zx_dies _ _ _
    · split
      · exact zx_comes _ _ _
      · split
        · rfl
        · exact zx_dies _ _ _
theorem zx_tellL : ∀ (k : Nat) (Z : az) (p q : Nat), az_x (zTellL k Z p q) = az_x Z
  | 0, _, _, _ => rfl
  | k + 1, Z, p, q => by
    unfold zTellL
    rw [zx_tellL k]
    split
    · rw [zx_exit]; rfl
    · rfl
theorem zx_tellW : ∀ (l : List (Nat × Nat × Nat)) (Z : az) (p : Nat), az_x (zTellW l Z p) = az_x Z
  | [], _, _ => rfl
  | t :: l, Z, p => by
    unfold zTellW
    rw [zx_tellW l]
    split
    · exact zx_comes _ _ _
    · rfl
theorem zx_tell (Z : az) (p : Nat) : az_x (zTell Z p) = az_x Z := by
  unfold zTell
  dsimp only
  show az_x (zTellW _ _ _) = _
  rw [zx_tellW, zx_tellL]
theorem zx_spread : ∀ (k : Nat) (Z : az), az_x (zSpread k Z) = az_x Z
  | 0, _ => rfl
  | k + 1, Z => by
    unfold zSpread
    split
    · rw [zx_spread k, zx_tell]; rfl
    · rfl
theorem zx_fails (Z : az) (p : Nat) (w : List Int32) : az_x (zFails Z p w) = az_x Z := by
  unfold zFails
  split
  · exact zx_dies _ _ _
  · rfl
theorem zx_print (Z : az) (w : List Int32) : az_x (zPrint w Z) 0 = az_x Z 0 := funext fun k => (zPrint_get w Z).2.2.2.2.2.2.2.1 0 k (by decide)
theorem zx_word (Z : az) (p op : Nat) (a b c : Int32) : az_x (zWord Z p op a b c) 0 = az_x Z 0 := by
  have ed := fun (Z : az) p w => congrFun (zx_dies Z p w) 0
  have ef := fun (Z : az) p w => congrFun (zx_fails Z p w) 0
  have ec := fun (Z : az) p w => congrFun (zx_comes Z p w) 0
  have ee := fun (Z : az) q p w b => congrFun (zx_exit Z q p w b) 0
  unfold zWord
  dsimp only
  split
  · exact ed _ _ _
  · rfl
  · rfl
  · rfl
  · split
    · rfl
    · exact ef _ _ _
  · split
    · rfl
    · exact ef _ _ _
  · split
    · rfl
    · exact ef _ _ _
  · split
    · rfl
    · exact ef _ _ _
  · split
    · rfl
    · exact ef _ _ _
  · split
    · rfl
    · exact ef _ _ _
  · rfl
  · rfl
  · split
    · rfl
    · rfl
  · split
    · rfl
    · rfl
  · split
    · rfl
    · rfl
  · split
    · rfl
    · exact ef _ _ _
  · split
    · exact ed _ _ _
    · rfl
  · split
    · rfl
    · exact ef _ _ _
  · split
    · rfl
    · rfl
  · exact ef _ _ _
  · rfl
  · split
    · rfl
    · exact ef _ _ _
  · split
    · rfl
    · exact ef _ _ _
  · split
    · exact ec _ _ _
    · split
      · split
        · split
          · exact ec _ _ _
          · rfl
        · rfl
      · exact ef _ _ _
  · split
    · rfl
    · rfl
  · show az_x (if _ then _ else Z) 0 = _; split <;> rfl
  · split
    · rfl
    · rfl
  · split
    · rfl
    · rfl
  · split
    · rfl
    · split
      · exact ef _ _ _
      · split
        · rfl
        · rfl
  · split
    · exact ef _ _ _
    · split
      · exact ee _ _ _ _ _
      · split
        · rfl
        · rfl
  · split
    · exact ef _ _ _
    · rfl
  · split
    · exact ef _ _ _
    · split
      · exact ef _ _ _
      · split
        · exact ec _ _ _
        · rfl
  · split
    · exact ef _ _ _
    · exact ee _ _ _ _ _
  · rfl
  · split
    · rfl
    · exact ef _ _ _
  · split
    · rfl
    · rfl
  · exact zx_print _ _
theorem zx_step (Z : az) (p : Nat) : az_x (zStep Z p) 0 = az_x Z 0 := by
  rw [zStep_eq, zx_spread]
  exact zx_word _ _ _ _ _ _
theorem zx_words : ∀ (k : Nat) (Z : az) (p : Nat), az_x (zWords k Z p) 0 = az_x Z 0
  | 0, _, _ => rfl
  | k + 1, Z, p => by
    unfold zWords
    split
    · rw [zx_words k, zx_step]
    · rfl
theorem zx_slice (Z : az) (p : Nat) : az_x (zSlice Z p) 0 = az_x Z 0 := by
  unfold zSlice
  dsimp only
  split
  · exact zx_words _ _ _
  · exact zx_words _ _ _
theorem zx_run : ∀ (k : Nat) (Z : az), az_x (zRun k Z).2 0 = az_x Z 0
  | 0, _ => rfl
  | k + 1, Z => by
    unfold zRun
    split
    · rfl
    · dsimp only
      rw [zx_run k, zx_slice]
theorem zx_pass : ∀ (k : Nat) (Z : az), az_x (zPass k Z).2 0 = az_x Z 0
  | 0, _ => rfl
  | k + 1, Z => by
    unfold zPass
    split
    · rfl
    · dsimp only
      rw [zx_pass k]; rfl
/-- every word's operation is one of 37 -/
def zOps (Z : az) : Prop := ∀ k, k < 300 → ∃ n, n ≤ 36 ∧ az_x Z 0 (4 * k) = nI n
theorem zOps.of {Z W : az} (h : zOps Z) (e : az_x W 0 = az_x Z 0) : zOps W := fun k hk => by rw [e]; exact h k hk
theorem pm_mod_n {n d : Nat} (hd : 0 < d) (hn : n < 2 ^ 31) : pm_mod (nI n) d = n % d := by
  unfold pm_mod
  rw [nI_toInt hn]
  omega
