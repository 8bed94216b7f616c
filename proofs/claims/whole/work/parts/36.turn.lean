/-! ProcessMill: whose turn it is, who has waited too long -/
def zG (g : Bool) : Int32 := if g = true then 1 else 0
theorem zFirst_eq {Z : az} {g : Bool} {p q : Nat} (h1 : az_b Z 0 p < 2 ^ 31) (h2 : az_b Z 0 q < 2 ^ 31) (h3 : az_b Z 5 p < 2 ^ 31) (h4 : az_b Z 5 q < 2 ^ 31) :
    (if nI (az_b Z 0 p) = nI (az_b Z 0 q) then (if nI (az_b Z 5 q) ≤ nI (az_b Z 5 p) then 0 else 1) else if zG g = (if nI (az_b Z 0 p) ≤ nI (az_b Z 0 q) then 0 else 1) then 1 else 0 : Int32) = zG (zFirstOf Z g p q) := by
  unfold zFirstOf
  by_cases e : az_b Z 0 p = az_b Z 0 q
  · rw [if_pos (by rw [e]), if_pos e]
    by_cases e2 : az_b Z 5 p < az_b Z 5 q
    · rw [if_neg (fun z => by have := (nI_leI h4 h3).mp z; omega), decide_eq_true e2]; rfl
    · rw [if_pos ((nI_leI h4 h3).mpr (by omega)), decide_eq_false e2]; rfl
  · rw [if_neg (fun z => e ((nI_eq h1 h2).mp z)), if_neg e]
    by_cases e2 : az_b Z 0 p ≤ az_b Z 0 q
    · rw [if_pos ((nI_leI h1 h2).mpr e2)]
      cases g
      · simp [zG, show az_b Z 0 p < az_b Z 0 q by omega]
      · simp [zG, show ¬ az_b Z 0 q < az_b Z 0 p by omega]
    · rw [if_neg (fun z => e2 ((nI_leI h1 h2).mp z))]
      cases g
      · simp [zG, show ¬ az_b Z 0 p < az_b Z 0 q by omega]
      · simp [zG, show az_b Z 0 q < az_b Z 0 p by omega]
theorem zNext_s (Z : az) (g : Bool) (k p : Nat) (r : Option Nat) : zNext Z g (k + 1) p r = zNext Z g k (p + 1) (if az_b Z 1 p = 0 then (match r with | none => some p | some q => if zFirstOf Z g p q then some p else r) else r) := rfl
/-- what keeps the numbers of processes small -/
def zSm (Z : az) : Prop := ∀ p, p < az_a Z 0 → ∀ i, az_b Z i p < 2 ^ 31
set_option maxHeartbeats 4000000 in
set_option maxRecDepth 100000 in
theorem c_X6_nextInTurn (G : pm_G) (l : Launch) (bs : Nat) (Z : az) (Y : pm_Y) (E : pm_S) (S : pm_S) (h : pm_CR Z S Y E) (hn : az_a Z 0 ≤ 60) (hsm : zSm Z) (hsl : az_a Z 4 + 1 < 2 ^ 31) : pm_M G l bs yX6_nextInTurn cX6_nextInTurn 5 (some (.object "ProcessMill$Proc")) 1 0 0 [.ref (Y.1 0)] S (pm_qr (fun x S2 => x = (zNextOf Z).map (fun p => Y.1 (pq p 0)) ∧ S2 = S)) := by
  have hA := h.2.2.2.2.2.1
  obtain ⟨⟨hk0, hr0, hr1, hr2, hr3, hr4, hr5, hr6, hr7⟩, ⟨hk1, hl1⟩, ⟨hk2, hl2⟩, ⟨hk3, hl3⟩, ⟨hk4, hl4⟩, hWt, hSh, hLt, hCs⟩ := id h.2.2.1
  refine pm_Mr (L := [.ref (Y.1 0), pm_u, pm_u, pm_u, pm_u]) (by decide +kernel) rfl (pm_en_1 rfl (pm_en_0 rfl)) ?_
  generalize hQ9 : pm_xr (fun x S2 => x = (zNextOf Z).map (fun p => Y.1 (pq p 0)) ∧ S2 = S) = Q9
  have loop : ∀ (m k : Nat) (g : Bool) (r : Option Nat) (v4 : Value), k + m = az_a Z 0 → (∀ q, r = some q → q < az_a Z 0) → zNext Z g m k r = zNextOf Z → pm_W G l bs yX6_nextInTurn.cls cX6_nextInTurn 5 false 1 0 0 Q9 22 [.ref (Y.1 0), .int (zG g), va_rf (r.map (fun p => Y.1 (pq p 0))), .int (nI k), v4] [] S := by
    intro m
    induction m using Nat.strongRecOn with
    | ind m ih =>
    intro k g r v4 hkm hrr hq
    refine pm_iload_n dX6_nextInTurn_22 rfl ?_
    refine pm_aload_n dX6_nextInTurn_23 rfl ?_
    refine pm_g_Mill_started (by (try simp only [pm_k_si, pm_k_sj, pm_k_sp, pm_k_sx, pm_k_sz, pm_k_sr, pm_k_sy]); assumption) pm_f_X6_49 dX6_nextInTurn_24 ?_
    rw [hA 308 0 0 rfl]
    refine pm_icmp_ge (tgt := 69) dX6_nextInTurn_27 (by decide) (fun h27 => ?_) (fun h27 => ?_)
    · skip
      have h8 : k = az_a Z 0 := by have := (pm_nle (by omega) (by omega)).mp h27; omega
      obtain rfl : m = 0 := by omega
      refine pm_aload_n dX6_nextInTurn_69 rfl ?_
      subst hQ9
      first | refine pm_aretn dX6_nextInTurn_70 ?_ | refine pm_aret dX6_nextInTurn_70 ?_ | refine pm_aretr dX6_nextInTurn_70 ?_
      exact ⟨by rw [← hq]; rfl, rfl⟩
    · skip
      have h8 : k < az_a Z 0 := by rcases Nat.lt_or_ge k (az_a Z 0) with q | q; exact q; exact absurd ((pm_nle (by omega) (by omega)).mpr q) h27
      obtain ⟨m, rfl⟩ : ∃ m2, m = m2 + 1 := ⟨m - 1, by omega⟩
      rw [zNext_s] at hq
      have pk := (h.2.2.2.1 k h8).1.1
      have hz := h.2.2.2.2.2.2.2.2.2.2.2.1.1 k h8
      have hs := h.2.2.2.2.1 k h8 56 0 1 rfl
      refine pm_aload_n dX6_nextInTurn_30 rfl ?_
      refine pm_g_Mill_processes (by (try simp only [pm_k_si, pm_k_sj, pm_k_sp, pm_k_sx, pm_k_sz, pm_k_sr, pm_k_sy]); assumption) pm_f_X6_15 (by (try simp only [pm_p_si, pm_p_sj, pm_p_sx, pm_p_sz, pm_p_sr, pm_p_sy]); assumption) dX6_nextInTurn_31 ?_
      refine pm_iload_n dX6_nextInTurn_34 rfl ?_
      refine pm_aaloadP (n := k) (by (try simp only [pm_k_si, pm_k_sj, pm_k_sp, pm_k_sx, pm_k_sz, pm_k_sr, pm_k_sy]); assumption) rfl (by first | omega | (simp only [pm_n_sx, pm_n_si, pm_n_sr, pm_n_sz, pm_n_sp, pm_n_sj, pm_n_sy]; omega)) (by first | omega | (simp only [pm_n_sx, pm_n_si, pm_n_sr, pm_n_sz, pm_n_sp, pm_n_sj, pm_n_sy]; omega)) dX6_nextInTurn_35 ?_
      rw [hz]
      show pm_W _ _ _ _ _ _ _ _ _ _ _ _ _ [.ref (Y.1 (pq k 0))] S
      refine pm_astore dX6_nextInTurn_36 (by decide) ?_
      dsimp only [List.set]
      refine pm_aload dX6_nextInTurn_38 rfl ?_
      refine pm_g_Proc_state (by (try simp only [pm_k_si, pm_k_sj, pm_k_sp, pm_k_sx, pm_k_sz, pm_k_sr, pm_k_sy]); assumption) pm_f_X6_142 dX6_nextInTurn_40 ?_
      rw [hs]
      refine pm_if_ne (tgt := 63) dX6_nextInTurn_43 (by decide) (fun h43 => ?_) (fun h43 => ?_)
      · skip
        have h7 : ¬ az_b Z 1 k = 0 := fun z => h43 (by rw [z]; rfl)
        rw [if_neg h7] at hq
        refine pm_iinc dX6_nextInTurn_63 rfl rfl (by decide) ?_
        dsimp only [List.set]
        refine pm_goto (tgt := 22) dX6_nextInTurn_66 (by decide) ?_
        rw [show nI k + Int32.ofInt 1 = nI (k + 1) from nI_1 _]
        first
        | exact ih m (by omega) (k + 1) g (some k) _ (by omega) (fun q z => by cases z; exact h8) hq
        | exact ih m (by omega) (k + 1) g (some q9) _ (by omega) (fun q z => by cases z; exact hq9) hq
        | exact ih m (by omega) (k + 1) g r _ (by omega) hrr hq
      · skip
        have h7 : az_b Z 1 k = 0 := (pm_ne0 (hsm k h8 1)).mp h43
        rw [if_pos h7] at hq
        refine pm_aload_n dX6_nextInTurn_46 rfl ?_
        cases hr9 : r with
        | some q9 =>
          refine pm_ifnull_r dX6_nextInTurn_47 ?_
          have hq9 : q9 < az_a Z 0 := hrr q9 hr9
          have pk9 := (h.2.2.2.1 q9 hq9).1.1
          simp only [hr9] at hq
          refine pm_aload dX6_nextInTurn_50 rfl ?_
          refine pm_aload_n dX6_nextInTurn_52 rfl ?_
          refine pm_iload_n dX6_nextInTurn_53 rfl ?_
          refine pm_vi (c_X1_comesBefore G l bs (Y.1 (pq k 0)) (Y.1 (pq q9 0)) (zG g) S pk pk9) pm_y_X1_comesBefore pm_v_X1_comesBefore pm_m_X6_190 (c := 1) (r := (RX1, TX1, 16)) rfl rfl (by (try simp only [pm_k_si, pm_k_sj, pm_k_sp, pm_k_sx, pm_k_sz, pm_k_sr, pm_k_sy]); assumption) dX6_nextInTurn_54 rfl rfl (by decide) (Nat.le_of_ble_eq_true rfl) (fun x54 S54 h54 => ?_)
          obtain ⟨e54, rfl⟩ := h54
          rw [h.2.2.2.2.1 k h8 51 0 0 rfl, h.2.2.2.2.1 q9 hq9 51 0 0 rfl, h.2.2.2.2.1 k h8 61 0 5 rfl, h.2.2.2.2.1 q9 hq9 61 0 5 rfl, zFirst_eq (hsm k h8 0) (hsm q9 hq9 0) (hsm k h8 5) (hsm q9 hq9 5)] at e54
          subst e54
          refine pm_if_eq (tgt := 63) dX6_nextInTurn_57 (by decide) (fun h57 => ?_) (fun h57 => ?_)
          · skip
            have h6 : zFirstOf Z g k q9 = false := by cases q : zFirstOf Z g k q9; rfl; rw [q] at h57; exact absurd h57 (by decide)
            rw [h6] at hq
            simp only [Bool.false_eq_true, if_false] at hq
            refine pm_iinc dX6_nextInTurn_63 rfl rfl (by decide) ?_
            dsimp only [List.set]
            refine pm_goto (tgt := 22) dX6_nextInTurn_66 (by decide) ?_
            rw [show nI k + Int32.ofInt 1 = nI (k + 1) from nI_1 _]
            first
            | exact ih m (by omega) (k + 1) g (some k) _ (by omega) (fun q z => by cases z; exact h8) hq
            | exact ih m (by omega) (k + 1) g (some q9) _ (by omega) (fun q z => by cases z; exact hq9) hq
            | exact ih m (by omega) (k + 1) g r _ (by omega) hrr hq
          · skip
            have h6 : zFirstOf Z g k q9 = true := by cases q : zFirstOf Z g k q9; rw [q] at h57; exact absurd rfl h57; rfl
            rw [h6] at hq
            simp only [if_true] at hq
            refine pm_aload dX6_nextInTurn_60 rfl ?_
            refine pm_astn dX6_nextInTurn_62 (i := 2) rfl (by decide) ?_
            dsimp only [List.set]
            refine pm_iinc dX6_nextInTurn_63 rfl rfl (by decide) ?_
            dsimp only [List.set]
            refine pm_goto (tgt := 22) dX6_nextInTurn_66 (by decide) ?_
            rw [show nI k + Int32.ofInt 1 = nI (k + 1) from nI_1 _]
            first
            | exact ih m (by omega) (k + 1) g (some k) _ (by omega) (fun q z => by cases z; exact h8) hq
            | exact ih m (by omega) (k + 1) g (some q9) _ (by omega) (fun q z => by cases z; exact hq9) hq
            | exact ih m (by omega) (k + 1) g r _ (by omega) hrr hq
        | none =>
          refine pm_ifnull_n (tgt := 60) dX6_nextInTurn_47 (by decide) ?_
          simp only [hr9] at hq
          refine pm_aload dX6_nextInTurn_60 rfl ?_
          refine pm_astn dX6_nextInTurn_62 (i := 2) rfl (by decide) ?_
          dsimp only [List.set]
          refine pm_iinc dX6_nextInTurn_63 rfl rfl (by decide) ?_
          dsimp only [List.set]
          refine pm_goto (tgt := 22) dX6_nextInTurn_66 (by decide) ?_
          rw [show nI k + Int32.ofInt 1 = nI (k + 1) from nI_1 _]
          first
          | exact ih m (by omega) (k + 1) g (some k) _ (by omega) (fun q z => by cases z; exact h8) hq
          | exact ih m (by omega) (k + 1) g (some q9) _ (by omega) (fun q z => by cases z; exact hq9) hq
          | exact ih m (by omega) (k + 1) g r _ (by omega) hrr hq
  refine pm_aload_n dX6_nextInTurn_0 rfl ?_
  refine pm_g_Mill_slices (by (try simp only [pm_k_si, pm_k_sj, pm_k_sp, pm_k_sx, pm_k_sz, pm_k_sr, pm_k_sy]); assumption) pm_f_X6_62 dX6_nextInTurn_1 ?_
  refine pm_iconst (v := 1) dX6_nextInTurn_4 (by decide) ?_
  refine pm_iadd dX6_nextInTurn_5 ?_
  refine pm_bipush (v := 8) dX6_nextInTurn_6 (by decide) ?_
  rw [hA 312 0 4 rfl, nI_1, show (8 : Int32) = nI 8 from rfl]
  refine pm_irem dX6_nextInTurn_8 (by decide) ?_
  rw [pk_rem (by omega) (by decide) (by decide)]
  refine pm_if_ne (tgt := 16) dX6_nextInTurn_9 (by decide) (fun h9 => ?_) (fun h9 => ?_)
  · skip
    have hg : zG (decide ((az_a Z 4 + 1) % 8 = 0)) = 0 := by rw [decide_eq_false (fun z => h9 (by rw [z]; rfl))]; rfl
    refine pm_iconst (v := 0) dX6_nextInTurn_16 (by decide) ?_
    rw [← hg]
    refine pm_istn dX6_nextInTurn_17 (i := 1) rfl (by decide) ?_
    dsimp only [List.set]
    refine pm_null dX6_nextInTurn_18 ?_
    refine pm_astn dX6_nextInTurn_19 (i := 2) rfl (by decide) ?_
    dsimp only [List.set]
    refine pm_iconst (v := 0) dX6_nextInTurn_20 (by decide) ?_
    refine pm_istn dX6_nextInTurn_21 (i := 3) rfl (by decide) ?_
    dsimp only [List.set]
    exact loop (az_a Z 0) 0 _ none _ (by omega) (fun q z => by cases z) rfl
  · skip
    have hg : zG (decide ((az_a Z 4 + 1) % 8 = 0)) = 1 := by rw [decide_eq_true ((pm_ne0 (by omega)).mp h9)]; rfl
    refine pm_iconst (v := 1) dX6_nextInTurn_12 (by decide) ?_
    refine pm_goto (tgt := 17) dX6_nextInTurn_13 (by decide) ?_
    rw [← hg]
    refine pm_istn dX6_nextInTurn_17 (i := 1) rfl (by decide) ?_
    dsimp only [List.set]
    refine pm_null dX6_nextInTurn_18 ?_
    refine pm_astn dX6_nextInTurn_19 (i := 2) rfl (by decide) ?_
    dsimp only [List.set]
    refine pm_iconst (v := 0) dX6_nextInTurn_20 (by decide) ?_
    refine pm_istn dX6_nextInTurn_21 (i := 3) rfl (by decide) ?_
    dsimp only [List.set]
    exact loop (az_a Z 0) 0 _ none _ (by omega) (fun q z => by cases z) rfl

