/-! ProcessMill: whose turn it is, who has waited too long -/
def zG (g : Bool) : Int32 := if g = true then 1 else 0
theorem zFirst_eq {Z : az} {g : Bool} {p q : Nat} (h1 : az_b Z 0 p < 2 ^ 31) (h2 : az_b Z 0 q < 2 ^ 31) (h3 : az_b Z 5 p < 2 ^ 31) (h4 : az_b Z 5 q < 2 ^ 31) :
    (if nI (az_b Z 0 p) = nI (az_b Z 0 q) then (if nI (az_b Z 5 q) ≤ nI (az_b Z 5 p) then 0 else 1) else if zG g = (if nI (az_b Z 0 p) ≤ nI (az_b Z 0 q) then 0 else 1) then 1 else 0 : Int32) = zG (zFirstOf Z g p q) := by
  unfold zFirstOf
  by_cases e : az_b Z 0 p = az_b Z 0 q
  · rw [if_pos (by rw [e]), if_pos e]
    by_cases e2 : az_b Z 5 p < az_b Z 5 q
    · rw [if_neg (fun z => by have := (nI_leI h4 h3).mp z; omega), decide_eq_true e2]; rfl
    · rw [if_pos ((nI_leI h4 h3).mpr (by omega)), decide_eq_false e2]; rfl
  · rw [if_neg (fun z => e ((nI_eq h1 h2).mp z)), if_neg e]
    by_cases e2 : az_b Z 0 p ≤ az_b Z 0 q
    · rw [if_pos ((nI_leI h1 h2).mpr e2)]
      cases g
      · simp [zG, show az_b Z 0 p < az_b Z 0 q by omega]
      · simp [zG, show ¬ az_b Z 0 q < az_b Z 0 p by omega]
    · rw [if_neg (fun z => e2 ((nI_leI h1 h2).mp z))]
      cases g
      · simp [zG, show ¬ az_b Z 0 p < az_b Z 0 q by omega]
      · simp [zG, show az_b Z 0 q < az_b Z 0 p by omega]
theorem zNext_s (Z : az) (g : Bool) (k p : Nat) (r : Option Nat) : zNext Z g (k + 1) p r = zNext Z g k (p + 1) (if az_b Z 1 p = 0 then (match r with | none => some p | some q => if zFirstOf Z g p q then some p else r) else r) := rfl
/-- what keeps the numbers of processes small -/
def zSm (Z : az) : Prop := ∀ p, p < az_a Z 0 → ∀ i, i ≠ 6 → az_b Z i p < 2 ^ 31
set_option maxHeartbeats 4000000 in
set_option maxRecDepth 100000 in
theorem c_X6_nextInTurn (G : pm_G) (l : Launch) (bs : Nat) (Z : az) (Y : pm_Y) (E : pm_S) (S : pm_S) (h : pm_CR Z S Y E) (hn : az_a Z 0 ≤ 60) (hsm : zSm Z) (hsl : az_a Z 4 + 1 < 2 ^ 31) : pm_M G l bs yX6_nextInTurn cX6_nextInTurn 5 (some (.object "ProcessMill$Proc")) 1 0 0 [.ref (Y.1 0)] S (pm_qr (fun x S2 => x = (zNextOf Z).map (fun p => Y.1 (pq p 0)) ∧ S2 = S)) := by
  have hA := h.2.2.2.2.2.1
  obtain ⟨⟨hk0, hr0, hr1, hr2, hr3, hr4, hr5, hr6, hr7⟩, ⟨hk1, hl1⟩, ⟨hk2, hl2⟩, ⟨hk3, hl3⟩, ⟨hk4, hl4⟩, hWt, hSh, hLt, hCs⟩ := id h.2.2.1
  refine pm_Mr (L := [.ref (Y.1 0), pm_u, pm_u, pm_u, pm_u]) (by decide +kernel) rfl (pm_en_1 rfl (pm_en_0 rfl)) ?_
  generalize hQ9 : pm_xr (fun x S2 => x = (zNextOf Z).map (fun p => Y.1 (pq p 0)) ∧ S2 = S) = Q9
  have loop : ∀ (m k : Nat) (g : Bool) (r : Option Nat) (v4 : Value), k + m = az_a Z 0 → (∀ q, r = some q → q < az_a Z 0) → zNext Z g m k r = zNextOf Z → pm_W G l bs yX6_nextInTurn.cls cX6_nextInTurn 5 false 1 0 0 Q9 22 [.ref (Y.1 0), .int (zG g), va_rf (r.map (fun p => Y.1 (pq p 0))), .int (nI k), v4] [] S := by
    intro m
    induction m using Nat.strongRecOn with
    | ind m ih =>
    intro k g r v4 hkm hrr hq
    refine pm_iload_n dX6_nextInTurn_22 rfl ?_
    refine pm_aload_n dX6_nextInTurn_23 rfl ?_
    refine pm_g_Mill_started (by (try simp only [pm_k_si, pm_k_sj, pm_k_sp, pm_k_sx, pm_k_sz, pm_k_sr, pm_k_sy]); assumption) pm_f_X6_49 dX6_nextInTurn_24 ?_
    rw [hA 308 0 0 rfl]
    refine pm_icmp_ge (tgt := 69) dX6_nextInTurn_27 (by decide) (fun h27 => ?_) (fun h27 => ?_)
    · skip
      have h8 : k = az_a Z 0 := by have := (pm_nle (by omega) (by omega)).mp h27; omega
      obtain rfl : m = 0 := by omega
      refine pm_aload_n dX6_nextInTurn_69 rfl ?_
      subst hQ9
      first | refine pm_aretn dX6_nextInTurn_70 ?_ | refine pm_aret dX6_nextInTurn_70 ?_ | refine pm_aretr dX6_nextInTurn_70 ?_
      exact ⟨by rw [← hq]; rfl, rfl⟩
    · skip
      have h8 : k < az_a Z 0 := by rcases Nat.lt_or_ge k (az_a Z 0) with q | q; exact q; exact absurd ((pm_nle (by omega) (by omega)).mpr q) h27
      obtain ⟨m, rfl⟩ : ∃ m2, m = m2 + 1 := ⟨m - 1, by omega⟩
      rw [zNext_s] at hq
      have pk := (h.2.2.2.1 k h8).1.1
      have hz := h.2.2.2.2.2.2.2.2.2.2.2.1.1 k h8
      have hs := h.2.2.2.2.1 k h8 56 0 1 rfl
      refine pm_aload_n dX6_nextInTurn_30 rfl ?_
      refine pm_g_Mill_processes (by (try simp only [pm_k_si, pm_k_sj, pm_k_sp, pm_k_sx, pm_k_sz, pm_k_sr, pm_k_sy]); assumption) pm_f_X6_15 (by (try simp only [pm_p_si, pm_p_sj, pm_p_sx, pm_p_sz, pm_p_sr, pm_p_sy]); assumption) dX6_nextInTurn_31 ?_
      refine pm_iload_n dX6_nextInTurn_34 rfl ?_
      refine pm_aaloadP (n := k) (by (try simp only [pm_k_si, pm_k_sj, pm_k_sp, pm_k_sx, pm_k_sz, pm_k_sr, pm_k_sy]); assumption) rfl (by first | omega | (simp only [pm_n_sx, pm_n_si, pm_n_sr, pm_n_sz, pm_n_sp, pm_n_sj, pm_n_sy]; omega)) (by first | omega | (simp only [pm_n_sx, pm_n_si, pm_n_sr, pm_n_sz, pm_n_sp, pm_n_sj, pm_n_sy]; omega)) dX6_nextInTurn_35 ?_
      rw [hz]
      show pm_W _ _ _ _ _ _ _ _ _ _ _ _ _ [.ref (Y.1 (pq k 0))] S
      refine pm_astore dX6_nextInTurn_36 (by decide) ?_
      dsimp only [List.set]
      refine pm_aload dX6_nextInTurn_38 rfl ?_
      refine pm_g_Proc_state (by (try simp only [pm_k_si, pm_k_sj, pm_k_sp, pm_k_sx, pm_k_sz, pm_k_sr, pm_k_sy]); assumption) pm_f_X6_142 dX6_nextInTurn_40 ?_
      rw [hs]
      refine pm_if_ne (tgt := 63) dX6_nextInTurn_43 (by decide) (fun h43 => ?_) (fun h43 => ?_)
      · skip
        have h7 : ¬ az_b Z 1 k = 0 := fun z => h43 (by rw [z]; rfl)
        rw [if_neg h7] at hq
        refine pm_iinc dX6_nextInTurn_63 rfl rfl (by decide) ?_
        dsimp only [List.set]
        refine pm_goto (tgt := 22) dX6_nextInTurn_66 (by decide) ?_
        rw [show nI k + Int32.ofInt 1 = nI (k + 1) from nI_1 _]
        first
        | exact ih m (by omega) (k + 1) g (some k) _ (by omega) (fun q z => by cases z; exact h8) hq
        | exact ih m (by omega) (k + 1) g (some q9) _ (by omega) (fun q z => by cases z; exact hq9) hq
        | exact ih m (by omega) (k + 1) g r _ (by omega) hrr hq
      · skip
        have h7 : az_b Z 1 k = 0 := (pm_ne0 (hsm k h8 1 (by decide))).mp h43
        rw [if_pos h7] at hq
        refine pm_aload_n dX6_nextInTurn_46 rfl ?_
        cases hr9 : r with
        | some q9 =>
          refine pm_ifnull_r dX6_nextInTurn_47 ?_
          have hq9 : q9 < az_a Z 0 := hrr q9 hr9
          have pk9 := (h.2.2.2.1 q9 hq9).1.1
          simp only [hr9] at hq
          refine pm_aload dX6_nextInTurn_50 rfl ?_
          refine pm_aload_n dX6_nextInTurn_52 rfl ?_
          refine pm_iload_n dX6_nextInTurn_53 rfl ?_
          refine pm_vi (c_X1_comesBefore G l bs (Y.1 (pq k 0)) (Y.1 (pq q9 0)) (zG g) S pk pk9) pm_y_X1_comesBefore pm_v_X1_comesBefore pm_m_X6_190 (c := 1) (r := (RX1, TX1, 16)) rfl rfl (by (try simp only [pm_k_si, pm_k_sj, pm_k_sp, pm_k_sx, pm_k_sz, pm_k_sr, pm_k_sy]); assumption) dX6_nextInTurn_54 rfl rfl (by decide) (Nat.le_of_ble_eq_true rfl) (fun x54 S54 h54 => ?_)
          obtain ⟨e54, rfl⟩ := h54
          rw [h.2.2.2.2.1 k h8 51 0 0 rfl, h.2.2.2.2.1 q9 hq9 51 0 0 rfl, h.2.2.2.2.1 k h8 61 0 5 rfl, h.2.2.2.2.1 q9 hq9 61 0 5 rfl, zFirst_eq (hsm k h8 0 (by decide)) (hsm q9 hq9 0 (by decide)) (hsm k h8 5 (by decide)) (hsm q9 hq9 5 (by decide))] at e54
          subst e54
          refine pm_if_eq (tgt := 63) dX6_nextInTurn_57 (by decide) (fun h57 => ?_) (fun h57 => ?_)
          · skip
            have h6 : zFirstOf Z g k q9 = false := by cases q : zFirstOf Z g k q9; rfl; rw [q] at h57; exact absurd h57 (by decide)
            rw [h6] at hq
            simp only [Bool.false_eq_true, if_false] at hq
            refine pm_iinc dX6_nextInTurn_63 rfl rfl (by decide) ?_
            dsimp only [List.set]
            refine pm_goto (tgt := 22) dX6_nextInTurn_66 (by decide) ?_
            rw [show nI k + Int32.ofInt 1 = nI (k + 1) from nI_1 _]
            first
            | exact ih m (by omega) (k + 1) g (some k) _ (by omega) (fun q z => by cases z; exact h8) hq
            | exact ih m (by omega) (k + 1) g (some q9) _ (by omega) (fun q z => by cases z; exact hq9) hq
            | exact ih m (by omega) (k + 1) g r _ (by omega) hrr hq
          · skip
            have h6 : zFirstOf Z g k q9 = true := by cases q : zFirstOf Z g k q9; rw [q] at h57; exact absurd rfl h57; rfl
            rw [h6] at hq
            simp only [if_true] at hq
            refine pm_aload dX6_nextInTurn_60 rfl ?_
            refine pm_astn dX6_nextInTurn_62 (i := 2) rfl (by decide) ?_
            dsimp only [List.set]
            refine pm_iinc dX6_nextInTurn_63 rfl rfl (by decide) ?_
            dsimp only [List.set]
            refine pm_goto (tgt := 22) dX6_nextInTurn_66 (by decide) ?_
            rw [show nI k + Int32.ofInt 1 = nI (k + 1) from nI_1 _]
            first
            | exact ih m (by omega) (k + 1) g (some k) _ (by omega) (fun q z => by cases z; exact h8) hq
            | exact ih m (by omega) (k + 1) g (some q9) _ (by omega) (fun q z => by cases z; exact hq9) hq
            | exact ih m (by omega) (k + 1) g r _ (by omega) hrr hq
        | none =>
          refine pm_ifnull_n (tgt := 60) dX6_nextInTurn_47 (by decide) ?_
          simp only [hr9] at hq
          refine pm_aload dX6_nextInTurn_60 rfl ?_
          refine pm_astn dX6_nextInTurn_62 (i := 2) rfl (by decide) ?_
          dsimp only [List.set]
          refine pm_iinc dX6_nextInTurn_63 rfl rfl (by decide) ?_
          dsimp only [List.set]
          refine pm_goto (tgt := 22) dX6_nextInTurn_66 (by decide) ?_
          rw [show nI k + Int32.ofInt 1 = nI (k + 1) from nI_1 _]
          first
          | exact ih m (by omega) (k + 1) g (some k) _ (by omega) (fun q z => by cases z; exact h8) hq
          | exact ih m (by omega) (k + 1) g (some q9) _ (by omega) (fun q z => by cases z; exact hq9) hq
          | exact ih m (by omega) (k + 1) g r _ (by omega) hrr hq
  refine pm_aload_n dX6_nextInTurn_0 rfl ?_
  refine pm_g_Mill_slices (by (try simp only [pm_k_si, pm_k_sj, pm_k_sp, pm_k_sx, pm_k_sz, pm_k_sr, pm_k_sy]); assumption) pm_f_X6_62 dX6_nextInTurn_1 ?_
  refine pm_iconst (v := 1) dX6_nextInTurn_4 (by decide) ?_
  refine pm_iadd dX6_nextInTurn_5 ?_
  refine pm_bipush (v := 8) dX6_nextInTurn_6 (by decide) ?_
  rw [hA 312 0 4 rfl, nI_1, show (8 : Int32) = nI 8 from rfl]
  refine pm_irem dX6_nextInTurn_8 (by decide) ?_
  rw [pk_rem (by omega) (by decide) (by decide)]
  refine pm_if_ne (tgt := 16) dX6_nextInTurn_9 (by decide) (fun h9 => ?_) (fun h9 => ?_)
  · skip
    have hg : zG (decide ((az_a Z 4 + 1) % 8 = 0)) = 0 := by rw [decide_eq_false (fun z => h9 (by rw [z]; rfl))]; rfl
    refine pm_iconst (v := 0) dX6_nextInTurn_16 (by decide) ?_
    rw [← hg]
    refine pm_istn dX6_nextInTurn_17 (i := 1) rfl (by decide) ?_
    dsimp only [List.set]
    refine pm_null dX6_nextInTurn_18 ?_
    refine pm_astn dX6_nextInTurn_19 (i := 2) rfl (by decide) ?_
    dsimp only [List.set]
    refine pm_iconst (v := 0) dX6_nextInTurn_20 (by decide) ?_
    refine pm_istn dX6_nextInTurn_21 (i := 3) rfl (by decide) ?_
    dsimp only [List.set]
    exact loop (az_a Z 0) 0 _ none _ (by omega) (fun q z => by cases z) rfl
  · skip
    have hg : zG (decide ((az_a Z 4 + 1) % 8 = 0)) = 1 := by rw [decide_eq_true ((pm_ne0 (by omega)).mp h9)]; rfl
    refine pm_iconst (v := 1) dX6_nextInTurn_12 (by decide) ?_
    refine pm_goto (tgt := 17) dX6_nextInTurn_13 (by decide) ?_
    rw [← hg]
    refine pm_istn dX6_nextInTurn_17 (i := 1) rfl (by decide) ?_
    dsimp only [List.set]
    refine pm_null dX6_nextInTurn_18 ?_
    refine pm_astn dX6_nextInTurn_19 (i := 2) rfl (by decide) ?_
    dsimp only [List.set]
    refine pm_iconst (v := 0) dX6_nextInTurn_20 (by decide) ?_
    refine pm_istn dX6_nextInTurn_21 (i := 3) rfl (by decide) ?_
    dsimp only [List.set]
    exact loop (az_a Z 0) 0 _ none _ (by omega) (fun q z => by cases z) rfl

theorem lg_gt (x y : Int64) : 0 < lg_cmp x y ↔ y < x := by
  unfold lg_cmp
  by_cases h1 : x > y
  · rw [if_pos h1]; exact ⟨fun _ => h1, fun _ => by decide⟩
  · rw [if_neg h1]
    by_cases h2 : x = y
    · rw [if_pos h2]; exact ⟨fun z => absurd z (by decide), fun z => absurd z h1⟩
    · rw [if_neg h2]; exact ⟨fun z => absurd z (by decide), fun z => absurd z h1⟩
theorem zDl_le {r : Option Nat} {t : Nat} (hr : ∀ u, r = some u → u < 2 ^ 62) (ht : t < 2 ^ 31) : (lN t < zDl r) ↔ ¬ ∃ u, r = some u ∧ u ≤ t := by
  cases r with
  | none =>
    have h1 : lN t < zDl none := by
      show lN t < 9223372036854775807
      rw [show (9223372036854775807 : Int64) = lN 9223372036854775807 from rfl, pk_lLT (by omega) (by omega)]
      omega
    exact ⟨fun _ z => (by obtain ⟨u, z, -⟩ := z; cases z), fun _ => h1⟩
  | some u =>
    have hu := hr u rfl
    show lN t < lN u ↔ _
    rw [pk_lLT (by omega) (by omega)]
    refine ⟨fun q z => ?_, fun q => ?_⟩
    · obtain ⟨u2, e, z⟩ := z
      cases e
      omega
    · rcases Nat.lt_or_ge t u with z | z
      · exact z
      · exact absurd ⟨u, rfl, z⟩ q
theorem zDue_s (Z : az) (k p : Nat) (r : Option Nat) : zDue Z (k + 1) p r = zDue Z k (p + 1) (match az_e Z 1 p with
    | some u => if az_b Z 1 p = 1 ∧ u ≤ az_a Z 6 then (match r with
        | none => some p
        | some q => if u < (az_e Z 1 q).getD 0 then some p else r) else r
    | none => r) := rfl
theorem pm_ni1 {n : Nat} (hn : n < 2 ^ 31) : nI n = 1 ↔ n = 1 := by rw [show (1 : Int32) = nI 1 from rfl, nI_eq hn (by omega)]
set_option maxHeartbeats 4000000 in
set_option maxRecDepth 100000 in
theorem c_X6_firstDue (G : pm_G) (l : Launch) (bs : Nat) (Z : az) (Y : pm_Y) (E : pm_S) (S : pm_S) (h : pm_CR Z S Y E) (hn : az_a Z 0 ≤ 60) (hsm : zSm Z) (htm : az_a Z 6 < 2 ^ 31) (hdl : ∀ p, p < az_a Z 0 → ∀ u, az_e Z 1 p = some u → u < 2 ^ 62) : pm_M G l bs yX6_firstDue cX6_firstDue 5 (some (.object "ProcessMill$Proc")) 0 0 0 [.ref (Y.1 0)] S (pm_qr (fun x S2 => x = (zDue Z (az_a Z 0) 0 none).map (fun p => Y.1 (pq p 0)) ∧ S2 = S)) := by
  have hA := h.2.2.2.2.2.1
  obtain ⟨⟨hk0, hr0, hr1, hr2, hr3, hr4, hr5, hr6, hr7⟩, ⟨hk1, hl1⟩, ⟨hk2, hl2⟩, ⟨hk3, hl3⟩, ⟨hk4, hl4⟩, hWt, hSh, hLt, hCs⟩ := id h.2.2.1
  refine pm_Mr (L := [.ref (Y.1 0), pm_u, pm_u, pm_u, pm_u]) (by decide +kernel) rfl (pm_en_1 rfl (pm_en_0 rfl)) ?_
  generalize hQ9 : pm_xr (fun x S2 => x = (zDue Z (az_a Z 0) 0 none).map (fun p => Y.1 (pq p 0)) ∧ S2 = S) = Q9
  have loop : ∀ (m k : Nat) (r : Option Nat) (v3 v4 : Value), v3.category = 1 → k + m = az_a Z 0 → (∀ q, r = some q → q < az_a Z 0 ∧ ∃ u, az_e Z 1 q = some u ∧ u ≤ az_a Z 6) → zDue Z m k r = zDue Z (az_a Z 0) 0 none → pm_W G l bs yX6_firstDue.cls cX6_firstDue 5 false 0 0 0 Q9 4 [.ref (Y.1 0), va_rf (r.map (fun p => Y.1 (pq p 0))), .int (nI k), v3, v4] [] S := by
    intro m
    induction m using Nat.strongRecOn with
    | ind m ih =>
    intro k r v3 v4 hv3 hkm hrr hq
    refine pm_iload_n dX6_firstDue_4 rfl ?_
    refine pm_aload_n dX6_firstDue_5 rfl ?_
    refine pm_g_Mill_started (by (try simp only [pm_k_si, pm_k_sj, pm_k_sp, pm_k_sx, pm_k_sz, pm_k_sr, pm_k_sy]); assumption) pm_f_X6_49 dX6_firstDue_6 ?_
    rw [hA 308 0 0 rfl]
    refine pm_icmp_ge (tgt := 76) dX6_firstDue_9 (by decide) (fun h9 => ?_) (fun h9 => ?_)
    · skip
      have h8 : k = az_a Z 0 := by have := (pm_nle (by omega) (by omega)).mp h9; omega
      obtain rfl : m = 0 := by omega
      refine pm_aload_n dX6_firstDue_76 rfl ?_
      subst hQ9
      first | refine pm_aretn dX6_firstDue_77 ?_ | refine pm_aret dX6_firstDue_77 ?_ | refine pm_aretr dX6_firstDue_77 ?_
      exact ⟨by rw [← hq]; rfl, rfl⟩
    · skip
      have h8 : k < az_a Z 0 := by rcases Nat.lt_or_ge k (az_a Z 0) with q | q; exact q; exact absurd ((pm_nle (by omega) (by omega)).mpr q) h9
      obtain ⟨m, rfl⟩ : ∃ m2, m = m2 + 1 := ⟨m - 1, by omega⟩
      rw [zDue_s] at hq
      have pk := (h.2.2.2.1 k h8).1.1
      have hz := h.2.2.2.2.2.2.2.2.2.2.2.1.1 k h8
      have hs := h.2.2.2.2.1 k h8 56 0 1 rfl
      have hd := (h.2.2.2.2.2.2.2.1 k h8).1
      refine pm_aload_n dX6_firstDue_12 rfl ?_
      refine pm_g_Mill_processes (by (try simp only [pm_k_si, pm_k_sj, pm_k_sp, pm_k_sx, pm_k_sz, pm_k_sr, pm_k_sy]); assumption) pm_f_X6_15 (by (try simp only [pm_p_si, pm_p_sj, pm_p_sx, pm_p_sz, pm_p_sr, pm_p_sy]); assumption) dX6_firstDue_13 ?_
      refine pm_iload_n dX6_firstDue_16 rfl ?_
      refine pm_aaloadP (n := k) (by (try simp only [pm_k_si, pm_k_sj, pm_k_sp, pm_k_sx, pm_k_sz, pm_k_sr, pm_k_sy]); assumption) rfl (by first | omega | (simp only [pm_n_sx, pm_n_si, pm_n_sr, pm_n_sz, pm_n_sp, pm_n_sj, pm_n_sy]; omega)) (by first | omega | (simp only [pm_n_sx, pm_n_si, pm_n_sr, pm_n_sz, pm_n_sp, pm_n_sj, pm_n_sy]; omega)) dX6_firstDue_17 ?_
      rw [hz]
      show pm_W _ _ _ _ _ _ _ _ _ _ _ _ _ [.ref (Y.1 (pq k 0))] S
      refine pm_astn dX6_firstDue_18 (i := 3) rfl (by decide) ?_
      dsimp only [List.set]
      refine pm_aload_n dX6_firstDue_19 rfl ?_
      refine pm_g_Proc_state (by (try simp only [pm_k_si, pm_k_sj, pm_k_sp, pm_k_sx, pm_k_sz, pm_k_sr, pm_k_sy]); assumption) pm_f_X6_142 dX6_firstDue_20 ?_
      rw [hs]
      refine pm_iconst (v := 1) dX6_firstDue_23 (by decide) ?_
      refine pm_icmp_ne (tgt := 44) dX6_firstDue_24 (by decide) (fun h24 => ?_) (fun h24 => ?_)
      · skip
        have h7 : ¬ az_b Z 1 k = 1 := fun z => h24 (by rw [z]; rfl)
        have hnd : zDue Z m (k + 1) r = zDue Z (az_a Z 0) 0 none := by rw [← hq]; cases az_e Z 1 k with
          | none => rfl
          | some u => dsimp only; rw [if_neg (fun z => h7 z.1)]
        refine pm_iconst (v := 0) dX6_firstDue_44 (by decide) ?_
        refine pm_istore dX6_firstDue_45 (by decide) ?_
        dsimp only [List.set]
        refine pm_iload dX6_firstDue_47 rfl ?_
        refine pm_if_eq (tgt := 70) dX6_firstDue_49 (by decide) (fun h49 => ?_) (fun h49 => ?_)
        case refine_2 => exact absurd (by decide) h49
        refine pm_iinc dX6_firstDue_70 rfl rfl (by decide) ?_
        dsimp only [List.set]
        refine pm_goto (tgt := 4) dX6_firstDue_73 (by decide) ?_
        rw [show nI k + Int32.ofInt 1 = nI (k + 1) from nI_1 _]
        first
        | exact ih m (by omega) (k + 1) r _ _ rfl (by omega) hrr hnd
        | exact ih m (by omega) (k + 1) (some k) _ _ rfl (by omega) (fun q z => by cases z; exact ⟨h8, u, hu, hut⟩) hq
        | exact ih m (by omega) (k + 1) (some q9) _ _ rfl (by omega) (fun q z => by cases z; exact ⟨hq9, u9, hu9, hut9⟩) hq
      · skip
        have h7 : az_b Z 1 k = 1 := (pm_ni1 (hsm k h8 1 (by decide))).mp h24
        refine pm_aload_n dX6_firstDue_27 rfl ?_
        refine pm_g_Proc_deadline (by (try simp only [pm_k_si, pm_k_sj, pm_k_sp, pm_k_sx, pm_k_sz, pm_k_sr, pm_k_sy]); assumption) pm_f_X6_180 dX6_firstDue_28 ?_
        refine pm_aload_n dX6_firstDue_31 rfl ?_
        refine pm_g_Mill_time (by (try simp only [pm_k_si, pm_k_sj, pm_k_sp, pm_k_sx, pm_k_sz, pm_k_sr, pm_k_sy]); assumption) pm_f_X6_68 dX6_firstDue_32 ?_
        refine pm_i2l dX6_firstDue_35 ?_
        rw [hd, hA 314 0 6 rfl, nI_l htm]
        refine pm_lcmp dX6_firstDue_36 ?_
        refine pm_if_gt (tgt := 44) dX6_firstDue_37 (by decide) (fun h37 => ?_) (fun h37 => ?_)
        · skip
          have h6 := (zDl_le (hdl k h8) htm).mp ((lg_gt _ _).mp h37)
          have hnd : zDue Z m (k + 1) r = zDue Z (az_a Z 0) 0 none := by rw [← hq]; cases hc : az_e Z 1 k with
            | none => rfl
            | some u => dsimp only; rw [if_neg (fun z => h6 ⟨u, hc, z.2⟩)]
          refine pm_iconst (v := 0) dX6_firstDue_44 (by decide) ?_
          refine pm_istore dX6_firstDue_45 (by decide) ?_
          dsimp only [List.set]
          refine pm_iload dX6_firstDue_47 rfl ?_
          refine pm_if_eq (tgt := 70) dX6_firstDue_49 (by decide) (fun h49 => ?_) (fun h49 => ?_)
          case refine_2 => exact absurd (by decide) h49
          refine pm_iinc dX6_firstDue_70 rfl rfl (by decide) ?_
          dsimp only [List.set]
          refine pm_goto (tgt := 4) dX6_firstDue_73 (by decide) ?_
          rw [show nI k + Int32.ofInt 1 = nI (k + 1) from nI_1 _]
          first
          | exact ih m (by omega) (k + 1) r _ _ rfl (by omega) hrr hnd
          | exact ih m (by omega) (k + 1) (some k) _ _ rfl (by omega) (fun q z => by cases z; exact ⟨h8, u, hu, hut⟩) hq
          | exact ih m (by omega) (k + 1) (some q9) _ _ rfl (by omega) (fun q z => by cases z; exact ⟨hq9, u9, hu9, hut9⟩) hq
        · skip
          obtain ⟨u, hu, hut⟩ : ∃ u, az_e Z 1 k = some u ∧ u ≤ az_a Z 6 := Classical.not_not.mp (fun z => h37 ((lg_gt _ _).mpr ((zDl_le (hdl k h8) htm).mpr z)))
          rw [hu] at hq hd
          simp only [h7, hut, and_self, if_true] at hq
          refine pm_iconst (v := 1) dX6_firstDue_40 (by decide) ?_
          refine pm_goto (tgt := 45) dX6_firstDue_41 (by decide) ?_
          refine pm_istore dX6_firstDue_45 (by decide) ?_
          dsimp only [List.set]
          refine pm_iload dX6_firstDue_47 rfl ?_
          refine pm_if_eq (tgt := 70) dX6_firstDue_49 (by decide) (fun h49 => ?_) (fun h49 => ?_)
          case refine_1 => exact absurd h49 (by decide)
          refine pm_aload_n dX6_firstDue_52 rfl ?_
          cases hr9 : r with
          | some q9 =>
            refine pm_ifnull_r dX6_firstDue_53 ?_
            obtain ⟨hq9, u9, hu9, hut9⟩ := hrr q9 hr9
            have pk9 := (h.2.2.2.1 q9 hq9).1.1
            simp only [hr9, hu9, Option.getD_some] at hq
            refine pm_aload_n dX6_firstDue_56 rfl ?_
            refine pm_g_Proc_deadline (by (try simp only [pm_k_si, pm_k_sj, pm_k_sp, pm_k_sx, pm_k_sz, pm_k_sr, pm_k_sy]); assumption) pm_f_X6_180 dX6_firstDue_57 ?_
            refine pm_aload_n dX6_firstDue_60 rfl ?_
            refine pm_g_Proc_deadline (by (try simp only [pm_k_si, pm_k_sj, pm_k_sp, pm_k_sx, pm_k_sz, pm_k_sr, pm_k_sy]); assumption) pm_f_X6_180 dX6_firstDue_61 ?_
            rw [hd, (h.2.2.2.2.2.2.2.1 q9 hq9).1, hu9]
            refine pm_lcmp dX6_firstDue_64 ?_
            refine pm_if_ge (tgt := 70) dX6_firstDue_65 (by decide) (fun h65 => ?_) (fun h65 => ?_)
            · skip
              have h5 : ¬ u < u9 := fun z => by have z2 := (lg_cmp_ge _ _).mp h65; have z3 : lN u9 ≤ lN u := z2; rw [pk_lLE (by omega) (by omega)] at z3; omega
              simp only [if_neg h5] at hq
              refine pm_iinc dX6_firstDue_70 rfl rfl (by decide) ?_
              dsimp only [List.set]
              refine pm_goto (tgt := 4) dX6_firstDue_73 (by decide) ?_
              rw [show nI k + Int32.ofInt 1 = nI (k + 1) from nI_1 _]
              first
              | exact ih m (by omega) (k + 1) r _ _ rfl (by omega) hrr hnd
              | exact ih m (by omega) (k + 1) (some k) _ _ rfl (by omega) (fun q z => by cases z; exact ⟨h8, u, hu, hut⟩) hq
              | exact ih m (by omega) (k + 1) (some q9) _ _ rfl (by omega) (fun q z => by cases z; exact ⟨hq9, u9, hu9, hut9⟩) hq
            · skip
              have h5 : u < u9 := by rcases Nat.lt_or_ge u u9 with z | z; exact z; exact absurd ((lg_cmp_ge _ _).mpr (show lN u9 ≤ lN u from (pk_lLE (by omega) (by omega)).mpr z)) h65
              simp only [if_pos h5] at hq
              refine pm_aload_n dX6_firstDue_68 rfl ?_
              refine pm_astn dX6_firstDue_69 (i := 1) rfl (by decide) ?_
              dsimp only [List.set]
              refine pm_iinc dX6_firstDue_70 rfl rfl (by decide) ?_
              dsimp only [List.set]
              refine pm_goto (tgt := 4) dX6_firstDue_73 (by decide) ?_
              rw [show nI k + Int32.ofInt 1 = nI (k + 1) from nI_1 _]
              first
              | exact ih m (by omega) (k + 1) r _ _ rfl (by omega) hrr hnd
              | exact ih m (by omega) (k + 1) (some k) _ _ rfl (by omega) (fun q z => by cases z; exact ⟨h8, u, hu, hut⟩) hq
              | exact ih m (by omega) (k + 1) (some q9) _ _ rfl (by omega) (fun q z => by cases z; exact ⟨hq9, u9, hu9, hut9⟩) hq
          | none =>
            refine pm_ifnull_n (tgt := 68) dX6_firstDue_53 (by decide) ?_
            simp only [hr9] at hq
            refine pm_aload_n dX6_firstDue_68 rfl ?_
            refine pm_astn dX6_firstDue_69 (i := 1) rfl (by decide) ?_
            dsimp only [List.set]
            refine pm_iinc dX6_firstDue_70 rfl rfl (by decide) ?_
            dsimp only [List.set]
            refine pm_goto (tgt := 4) dX6_firstDue_73 (by decide) ?_
            rw [show nI k + Int32.ofInt 1 = nI (k + 1) from nI_1 _]
            first
            | exact ih m (by omega) (k + 1) r _ _ rfl (by omega) hrr hnd
            | exact ih m (by omega) (k + 1) (some k) _ _ rfl (by omega) (fun q z => by cases z; exact ⟨h8, u, hu, hut⟩) hq
            | exact ih m (by omega) (k + 1) (some q9) _ _ rfl (by omega) (fun q z => by cases z; exact ⟨hq9, u9, hu9, hut9⟩) hq
  refine pm_null dX6_firstDue_0 ?_
  refine pm_astn dX6_firstDue_1 (i := 1) rfl (by decide) ?_
  dsimp only [List.set]
  refine pm_iconst (v := 0) dX6_firstDue_2 (by decide) ?_
  refine pm_istn dX6_firstDue_3 (i := 2) rfl (by decide) ?_
  dsimp only [List.set]
  exact loop (az_a Z 0) 0 none _ _ rfl (by omega) (fun q z => by cases z) rfl

