/-! Watches: h the object, n1 n2 n3 the arrays of the numbers, the watchers, the watched -/
def pm_wt (S : pm_S) (h n1 n2 n3 : Nat) : Prop := pm_k S h = 6 ∧ pm_p S 250 h = some n1 ∧ pm_p S 251 h = some n2 ∧ pm_p S 252 h = some n3 ∧ pm_k S n1 = 9 ∧ pm_n S n1 = 200 ∧ pm_k S n2 = 9 ∧ pm_n S n2 = 200 ∧ pm_k S n3 = 9 ∧ pm_n S n3 = 200 ∧ n1 ≠ n2 ∧ n1 ≠ n3 ∧ n2 ≠ n3
def pm_wa (S : pm_S) (n1 n2 n3 : Nat) (V : List (Int32 × Int32 × Int32)) : Prop := ∀ i, i < V.length → V[i]? = some (pm_x S n1 i, pm_x S n2 i, pm_x S n3 i)
theorem pm_take1 {α : Type} {V : List α} {i : Nat} {t : α} (h : V[i]? = some t) (f : α → Bool) : (V.take (i + 1)).filter f = (V.take i).filter f ++ (if f t = true then [t] else []) := by
  rw [List.take_succ, h]
  simp only [Option.toList, List.filter_append]
  by_cases q : f t = true <;> simp [q]
set_option maxHeartbeats 4000000 in
set_option maxRecDepth 100000 in
theorem c_X5_isFull (G : pm_G) (l : Launch) (bs : Nat) (h n1 n2 n3 : Nat) (n : Nat) (S : pm_S) (hw : pm_wt S h n1 n2 n3) (hn : pm_i S 253 h = nI n) (hn3 : n < 2 ^ 31) : pm_M G l bs yX5_isFull cX5_isFull 1 (some .boolean) 0 0 0 [.ref h] S (pm_qi (fun x S2 => x = (if n < 200 then 0 else 1) ∧ S2 = S)) := by
  obtain ⟨hk, hp1, hp2, hp3, hk1, hl1, hk2, hl2, hk3, hl3, hd12, hd13, hd23⟩ := hw
  refine pm_Mz (L := [.ref h]) (by decide +kernel) rfl (pm_en_1 rfl (pm_en_0 rfl)) ?_
  generalize hQ9 : pm_xz (fun x S2 => x = (if n < 200 then 0 else 1) ∧ S2 = S) = Q9
  refine pm_aload_n dX5_isFull_0 rfl ?_
  refine pm_g_Watches_count (by (try simp only [pm_k_si, pm_k_sj, pm_k_sp, pm_k_sx, pm_k_sz, pm_k_sr, pm_k_sy]); assumption) pm_f_X5_19 dX5_isFull_1 ?_
  refine pm_sipush (v := 200) dX5_isFull_4 (by decide) ?_
  rw [hn]
  refine pm_icmp_lt (tgt := 14) dX5_isFull_7 (by decide) (fun h7 => ?_) (fun h7 => ?_)
  · skip
    have h9 : n < 200 := (pm_lt16 (m := 200) hn3 (by decide)).mp h7
    refine pm_iconst (v := 0) dX5_isFull_14 (by decide) ?_
    subst hQ9
    refine pm_zret dX5_isFull_15 (by first | exact Or.inl rfl | exact Or.inr rfl | assumption) ?_
    refine ⟨?_, rfl⟩
    first | (rw [if_pos h9]; done) | (rw [if_neg h9]; done)
  · skip
    have h9 : ¬ n < 200 := fun q => h7 ((pm_lt16 (m := 200) hn3 (by decide)).mpr q)
    refine pm_iconst (v := 1) dX5_isFull_10 (by decide) ?_
    refine pm_goto (tgt := 15) dX5_isFull_11 (by decide) ?_
    subst hQ9
    refine pm_zret dX5_isFull_15 (by first | exact Or.inl rfl | exact Or.inr rfl | assumption) ?_
    refine ⟨?_, rfl⟩
    first | (rw [if_pos h9]; done) | (rw [if_neg h9]; done)

set_option maxHeartbeats 4000000 in
set_option maxRecDepth 100000 in
theorem c_X5_nextNumber (G : pm_G) (l : Launch) (bs : Nat) (h m : Nat) (S : pm_S) (hk : pm_k S h = 6) (hm : pm_i S 254 h = nI m) : pm_M G l bs yX5_nextNumber cX5_nextNumber 1 (some .int) 0 0 0 [.ref h] S (pm_qi (fun x S2 => x = nI (m + 1) ∧ S2 = pm_si S 254 h (nI (m + 1)))) := by
  refine pm_Mi (L := [.ref h]) (by decide +kernel) rfl (pm_en_1 rfl (pm_en_0 rfl)) ?_
  generalize hQ9 : pm_xi (fun x S2 => x = nI (m + 1) ∧ S2 = pm_si S 254 h (nI (m + 1))) = Q9
  refine pm_aload_n dX5_nextNumber_0 rfl ?_
  refine pm_dup dX5_nextNumber_1 ?_
  refine pm_g_Watches_made (by (try simp only [pm_k_si, pm_k_sj, pm_k_sp, pm_k_sx, pm_k_sz, pm_k_sr, pm_k_sy]); assumption) pm_f_X5_23 dX5_nextNumber_2 ?_
  refine pm_iconst (v := 1) dX5_nextNumber_5 (by decide) ?_
  refine pm_iadd dX5_nextNumber_6 ?_
  rw [hm, nI_1]
  refine pm_p_Watches_made (by (try simp only [pm_k_si, pm_k_sj, pm_k_sp, pm_k_sx, pm_k_sz, pm_k_sr, pm_k_sy]); assumption) pm_f_X5_23 dX5_nextNumber_7 ?_
  refine pm_aload_n dX5_nextNumber_10 rfl ?_
  refine pm_g_Watches_made (by (try simp only [pm_k_si, pm_k_sj, pm_k_sp, pm_k_sx, pm_k_sz, pm_k_sr, pm_k_sy]); assumption) pm_f_X5_23 dX5_nextNumber_11 ?_
  subst hQ9
  refine pm_iret dX5_nextNumber_14 ?_
  exact ⟨by rw [pm_i_si, if_pos ⟨rfl, rfl⟩], rfl⟩

set_option maxHeartbeats 4000000 in
set_option maxRecDepth 100000 in
theorem c_X5_add (G : pm_G) (l : Launch) (bs : Nat) (h n1 n2 n3 : Nat) (V : List (Int32 × Int32 × Int32)) (a b c : Int32) (S : pm_S) (hw : pm_wt S h n1 n2 n3) (hn : pm_i S 253 h = nI V.length) (hlt : V.length < 200) (hV : pm_wa S n1 n2 n3 V) : pm_M G l bs yX5_add cX5_add 4 none 1 0 0 [.ref h, .int a, .int b, .int c] S (pm_qv (fun S2 => pm_fr S S2 (fun g d => g = 253 ∧ d = h) (fun d => d = n1 ∨ d = n2 ∨ d = n3) ∧ pm_i S2 253 h = nI (V.length + 1) ∧ pm_wa S2 n1 n2 n3 (V ++ [(a, b, c)]))) := by
  have hw0 := hw
  obtain ⟨hk, hp1, hp2, hp3, hk1, hl1, hk2, hl2, hk3, hl3, hd12, hd13, hd23⟩ := id hw
  refine pm_Mv (L := [.ref h, .int a, .int b, .int c]) false (by decide +kernel) (fun h => by cases h) rfl (pm_en_1 rfl (pm_en_1 rfl (pm_en_1 rfl (pm_en_1 rfl (pm_en_0 rfl))))) ?_
  generalize hQ9 : pm_xv (fun S2 => pm_fr S S2 (fun g d => g = 253 ∧ d = h) (fun d => d = n1 ∨ d = n2 ∨ d = n3) ∧ pm_i S2 253 h = nI (V.length + 1) ∧ pm_wa S2 n1 n2 n3 (V ++ [(a, b, c)])) = Q9
  refine pm_aload_n dX5_add_0 rfl ?_
  refine pm_vi (c_X5_isFull G l bs h n1 n2 n3 V.length S hw hn (by omega)) pm_y_X5_isFull pm_v_X5_isFull pm_m_X5_26 (c := 5) (r := (RX5, TX5, 5)) rfl rfl (by (try simp only [pm_k_si, pm_k_sj, pm_k_sp, pm_k_sx, pm_k_sz, pm_k_sr, pm_k_sy]); assumption) dX5_add_1 rfl rfl (by decide) (Nat.le_of_ble_eq_true rfl) (fun x1 S1 h1 => ?_)
  obtain ⟨rfl, rfl⟩ := h1
  rw [if_pos hlt]
  refine pm_if_eq (tgt := 8) dX5_add_4 (by decide) (fun h4 => ?_) (fun h4 => ?_)
  · skip
    skip
    refine pm_aload_n dX5_add_8 rfl ?_
    refine pm_g_Watches_numbers (by (try simp only [pm_k_si, pm_k_sj, pm_k_sp, pm_k_sx, pm_k_sz, pm_k_sr, pm_k_sy]); assumption) pm_f_X5_9 (by (try simp only [pm_p_si, pm_p_sj, pm_p_sx, pm_p_sz, pm_p_sr, pm_p_sy]); assumption) dX5_add_9 ?_
    refine pm_aload_n dX5_add_12 rfl ?_
    refine pm_g_Watches_count (by (try simp only [pm_k_si, pm_k_sj, pm_k_sp, pm_k_sx, pm_k_sz, pm_k_sr, pm_k_sy]); assumption) pm_f_X5_19 dX5_add_13 ?_
    refine pm_iload_n dX5_add_16 rfl ?_
    refine pm_iastore (n := V.length) (by (try simp only [pm_k_si, pm_k_sj, pm_k_sp, pm_k_sx, pm_k_sz, pm_k_sr, pm_k_sy]); assumption) hn (by first | omega | (simp only [pm_n_sx, pm_n_si, pm_n_sr, pm_n_sz, pm_n_sp, pm_n_sj, pm_n_sy]; omega)) (by first | omega | (simp only [pm_n_sx, pm_n_si, pm_n_sr, pm_n_sz, pm_n_sp, pm_n_sj, pm_n_sy]; omega)) dX5_add_17 ?_
    refine pm_aload_n dX5_add_18 rfl ?_
    refine pm_g_Watches_watchers (by (try simp only [pm_k_si, pm_k_sj, pm_k_sp, pm_k_sx, pm_k_sz, pm_k_sr, pm_k_sy]); assumption) pm_f_X5_13 (by (try simp only [pm_p_si, pm_p_sj, pm_p_sx, pm_p_sz, pm_p_sr, pm_p_sy]); assumption) dX5_add_19 ?_
    refine pm_aload_n dX5_add_22 rfl ?_
    refine pm_g_Watches_count (by (try simp only [pm_k_si, pm_k_sj, pm_k_sp, pm_k_sx, pm_k_sz, pm_k_sr, pm_k_sy]); assumption) pm_f_X5_19 dX5_add_23 ?_
    refine pm_iload_n dX5_add_26 rfl ?_
    refine pm_iastore (n := V.length) (by (try simp only [pm_k_si, pm_k_sj, pm_k_sp, pm_k_sx, pm_k_sz, pm_k_sr, pm_k_sy]); assumption) hn (by first | omega | (simp only [pm_n_sx, pm_n_si, pm_n_sr, pm_n_sz, pm_n_sp, pm_n_sj, pm_n_sy]; omega)) (by first | omega | (simp only [pm_n_sx, pm_n_si, pm_n_sr, pm_n_sz, pm_n_sp, pm_n_sj, pm_n_sy]; omega)) dX5_add_27 ?_
    refine pm_aload_n dX5_add_28 rfl ?_
    refine pm_g_Watches_watched (by (try simp only [pm_k_si, pm_k_sj, pm_k_sp, pm_k_sx, pm_k_sz, pm_k_sr, pm_k_sy]); assumption) pm_f_X5_16 (by (try simp only [pm_p_si, pm_p_sj, pm_p_sx, pm_p_sz, pm_p_sr, pm_p_sy]); assumption) dX5_add_29 ?_
    refine pm_aload_n dX5_add_32 rfl ?_
    refine pm_g_Watches_count (by (try simp only [pm_k_si, pm_k_sj, pm_k_sp, pm_k_sx, pm_k_sz, pm_k_sr, pm_k_sy]); assumption) pm_f_X5_19 dX5_add_33 ?_
    refine pm_iload_n dX5_add_36 rfl ?_
    refine pm_iastore (n := V.length) (by (try simp only [pm_k_si, pm_k_sj, pm_k_sp, pm_k_sx, pm_k_sz, pm_k_sr, pm_k_sy]); assumption) hn (by first | omega | (simp only [pm_n_sx, pm_n_si, pm_n_sr, pm_n_sz, pm_n_sp, pm_n_sj, pm_n_sy]; omega)) (by first | omega | (simp only [pm_n_sx, pm_n_si, pm_n_sr, pm_n_sz, pm_n_sp, pm_n_sj, pm_n_sy]; omega)) dX5_add_37 ?_
    refine pm_aload_n dX5_add_38 rfl ?_
    refine pm_dup dX5_add_39 ?_
    refine pm_g_Watches_count (by (try simp only [pm_k_si, pm_k_sj, pm_k_sp, pm_k_sx, pm_k_sz, pm_k_sr, pm_k_sy]); assumption) pm_f_X5_19 dX5_add_40 ?_
    refine pm_iconst (v := 1) dX5_add_43 (by decide) ?_
    refine pm_iadd dX5_add_44 ?_
    refine pm_p_Watches_count (by (try simp only [pm_k_si, pm_k_sj, pm_k_sp, pm_k_sx, pm_k_sz, pm_k_sr, pm_k_sy]); assumption) pm_f_X5_19 dX5_add_45 ?_
    subst hQ9
    refine pm_vret dX5_add_48 ?_
    refine ⟨pm_fr.tr (pm_fr.tr (pm_fr.tr (pm_fr_sx (Or.inl rfl)) (pm_fr_sx (Or.inr (Or.inl rfl)))) (pm_fr_sx (Or.inr (Or.inr rfl)))) (pm_fr_si ⟨rfl, rfl⟩), ?_, fun i hi => ?_⟩
    · rw [pm_i_si, if_pos ⟨rfl, rfl⟩, pm_i_sx, pm_i_sx, pm_i_sx, hn, nI_1]
    · simp only [List.length_append, List.length_cons, List.length_nil] at hi
      simp only [pm_x_si, pm_x_sx]
      by_cases e : i = V.length
      · subst e
        simp [hd12, hd13, hd23, hd12.symm, hd13.symm, hd23.symm]
      · rw [List.getElem?_append_left (by omega), hV i (by omega)]
        simp [e]
  · exact absurd rfl h4

set_option maxHeartbeats 4000000 in
set_option maxRecDepth 100000 in
theorem c_X5_dropWhere (G : pm_G) (l : Launch) (bs : Nat) (h n1 n2 n3 : Nat) (col : Nat) (q : Int32) (sel : Int32 × Int32 × Int32 → Int32) (V : List (Int32 × Int32 × Int32)) (S : pm_S) (hw : pm_wt S h n1 n2 n3) (hn : pm_i S 253 h = nI V.length) (hle : V.length ≤ 200) (hV : pm_wa S n1 n2 n3 V) (hcol : col = n1 ∨ col = n2 ∨ col = n3) (hsel : ∀ i, i < V.length → pm_x S col i = sel (pm_x S n1 i, pm_x S n2 i, pm_x S n3 i)) : pm_M G l bs yX5_dropWhere cX5_dropWhere 5 none 0 0 0 [.ref h, .ref col, .int q] S (pm_qv (fun S2 => pm_fr S S2 (fun g d => g = 253 ∧ d = h) (fun d => d = n1 ∨ d = n2 ∨ d = n3) ∧ pm_i S2 253 h = nI (V.filter (fun t => decide (sel t ≠ q))).length ∧ pm_wa S2 n1 n2 n3 (V.filter (fun t => decide (sel t ≠ q))))) := by
  obtain ⟨hk, hp1, hp2, hp3, hk1, hl1, hk2, hl2, hk3, hl3, hd12, hd13, hd23⟩ := hw
  refine pm_Mv (L := [.ref h, .ref col, .int q, pm_u, pm_u]) false (by decide +kernel) (fun h => by cases h) rfl (pm_en_1 rfl (pm_en_1 rfl (pm_en_1 rfl (pm_en_0 rfl)))) ?_
  generalize hQ9 : pm_xv (fun S2 => pm_fr S S2 (fun g d => g = 253 ∧ d = h) (fun d => d = n1 ∨ d = n2 ∨ d = n3) ∧ pm_i S2 253 h = nI (V.filter (fun t => decide (sel t ≠ q))).length ∧ pm_wa S2 n1 n2 n3 (V.filter (fun t => decide (sel t ≠ q)))) = Q9
  have loop : ∀ (m i k : Nat) (S9 : pm_S), i + m = V.length → k = ((V.take i).filter (fun t => decide (sel t ≠ q))).length → pm_fr S S9 (fun _ _ => False) (fun d => d = n1 ∨ d = n2 ∨ d = n3) → (∀ d, (d = n1 ∨ d = n2 ∨ d = n3) → ∀ j, ((V.take i).filter (fun t => decide (sel t ≠ q))).length ≤ j → pm_x S9 d j = pm_x S d j) → (∀ j, j < ((V.take i).filter (fun t => decide (sel t ≠ q))).length → ((V.take i).filter (fun t => decide (sel t ≠ q)))[j]? = some (pm_x S9 n1 j, pm_x S9 n2 j, pm_x S9 n3 j)) → pm_W G l bs yX5_dropWhere.cls cX5_dropWhere 5 false 0 0 0 Q9 5 [.ref h, .ref col, .int q, .int (nI k), .int (nI i)] [] S9 := by
    intro m
    induction m using Nat.strongRecOn with
    | ind m ih =>
    intro i k S9 him hkk hf hold hget
    have hkept : ((V.take i).filter (fun t => decide (sel t ≠ q))).length ≤ i := Nat.le_trans (List.length_filter_le _ _) (by rw [List.length_take]; omega)
    have hk9 : pm_k S9 h = 6 := by rw [hf.1]; exact hk
    have hq1 : pm_p S9 250 h = some n1 := by rw [(hf.2.2.1 250 h (fun z => z)).2.2]; exact hp1
    have hq2 : pm_p S9 251 h = some n2 := by rw [(hf.2.2.1 251 h (fun z => z)).2.2]; exact hp2
    have hq3 : pm_p S9 252 h = some n3 := by rw [(hf.2.2.1 252 h (fun z => z)).2.2]; exact hp3
    have hk19 : pm_k S9 n1 = 9 := by rw [hf.1]; exact hk1
    have hk29 : pm_k S9 n2 = 9 := by rw [hf.1]; exact hk2
    have hk39 : pm_k S9 n3 = 9 := by rw [hf.1]; exact hk3
    have hl19 : pm_n S9 n1 = 200 := by rw [hf.2.1]; exact hl1
    have hl29 : pm_n S9 n2 = 200 := by rw [hf.2.1]; exact hl2
    have hl39 : pm_n S9 n3 = 200 := by rw [hf.2.1]; exact hl3
    have hkc9 : pm_k S9 col = 9 := by rcases hcol with e | e | e <;> rw [e] <;> assumption
    have hlc9 : pm_n S9 col = 200 := by rcases hcol with e | e | e <;> rw [e] <;> assumption
    have hn9 : pm_i S9 253 h = nI V.length := by rw [(hf.2.2.1 253 h (fun z => z)).1]; exact hn
    have hkept0 := hkept
    rw [← hkk] at hkept
    refine pm_iload dX5_dropWhere_5 rfl ?_
    refine pm_aload_n dX5_dropWhere_7 rfl ?_
    refine pm_g_Watches_count (by (try simp only [pm_k_si, pm_k_sj, pm_k_sp, pm_k_sx, pm_k_sz, pm_k_sr, pm_k_sy]); assumption) pm_f_X5_19 dX5_dropWhere_8 ?_
    rw [hn9]
    refine pm_icmp_ge (tgt := 70) dX5_dropWhere_11 (by decide) (fun h11 => ?_) (fun h11 => ?_)
    · skip
      have h8 : i = V.length := by have := (pm_nle (by omega) (by omega)).mp h11; omega
      subst h8
      rw [List.take_length] at hkk hold hget
      refine pm_aload_n dX5_dropWhere_70 rfl ?_
      refine pm_iload_n dX5_dropWhere_71 rfl ?_
      refine pm_p_Watches_count (by (try simp only [pm_k_si, pm_k_sj, pm_k_sp, pm_k_sx, pm_k_sz, pm_k_sr, pm_k_sy]); assumption) pm_f_X5_19 dX5_dropWhere_72 ?_
      subst hQ9
      refine pm_vret dX5_dropWhere_75 ?_
      refine ⟨pm_fr.tr (hf.mono (fun _ _ z => z.elim) (fun _ z => z)) (pm_fr_si ⟨rfl, rfl⟩), ?_, fun j hj => ?_⟩
      · rw [pm_i_si, if_pos ⟨rfl, rfl⟩, hkk]
      · rw [hget j hj]
        rfl
    · skip
      have h8 : i < V.length := by rcases Nat.lt_or_ge i V.length with q | q; exact q; exact absurd ((pm_nle (by omega) (by omega)).mpr q) h11
      have hVi := hV i h8
      have c1 := hold n1 (Or.inl rfl) i hkept0
      have c2 := hold n2 (Or.inr (Or.inl rfl)) i hkept0
      have c3 := hold n3 (Or.inr (Or.inr rfl)) i hkept0
      have cc := hold col hcol i hkept0
      have ht := pm_take1 hVi (fun t => decide (sel t ≠ q))
      rw [← hsel i h8] at ht
      refine pm_aload_n dX5_dropWhere_14 rfl ?_
      refine pm_iload dX5_dropWhere_15 rfl ?_
      refine pm_iaload (n := i) hkc9 rfl (by rw [hlc9]; omega) (by rw [hlc9]; omega) dX5_dropWhere_17 ?_
      rw [cc]
      refine pm_iload_n dX5_dropWhere_18 rfl ?_
      refine pm_icmp_eq (tgt := 64) dX5_dropWhere_19 (by decide) (fun h19 => ?_) (fun h19 => ?_)
      · skip
        rw [if_neg (by simp [h19]), List.append_nil] at ht
        refine pm_iinc dX5_dropWhere_64 rfl rfl (by decide) ?_
        dsimp only [List.set]
        refine pm_goto (tgt := 5) dX5_dropWhere_67 (by decide) ?_
        rw [show nI i + Int32.ofInt 1 = nI (i + 1) from nI_1 _]
        first
        | exact ih (m - 1) (by omega) (i + 1) k _ (by omega) (by rw [ht]; exact hkk) hf (by rw [ht]; exact hold) (by rw [ht]; exact hget)
        | (rw [show nI k + Int32.ofInt 1 = nI (k + 1) from nI_1 _]
           refine ih (m - 1) (by omega) (i + 1) (k + 1) _ (by omega) (by rw [ht, List.length_append]; simp only [List.length_cons, List.length_nil]; omega) (pm_fr.tr hf (pm_fr.tr (pm_fr.tr (pm_fr_sx (Or.inl rfl)) (pm_fr_sx (Or.inr (Or.inl rfl)))) (pm_fr_sx (Or.inr (Or.inr rfl))))) (fun d hd j hj => ?_) (fun j hj => ?_)
           · rw [ht, List.length_append, ← hkk] at hj
             simp only [List.length_cons, List.length_nil] at hj
             simp only [pm_x_sx]
             rw [if_neg (by omega), if_neg (by omega), if_neg (by omega)]
             exact hold d hd j (by omega)
           · rw [ht, List.length_append, ← hkk] at hj
             simp only [List.length_cons, List.length_nil] at hj
             rw [ht]
             simp only [pm_x_sx]
             by_cases e : j = k
             · subst e
               rw [List.getElem?_append_right (by omega), show ∀ z : Nat, j = z → j - z = 0 from fun z e => by omega]
               · simp only [List.getElem?_cons_zero, hd12, hd13, hd23, hd12.symm, hd13.symm, hd23.symm, false_and, if_false, and_self, if_true, c1, c2, c3]
               · exact hkk
             · rw [List.getElem?_append_left (by omega), hget j (by omega)]
               simp [e])
      · skip
        rw [if_pos (by simp [h19])] at ht
        refine pm_aload_n dX5_dropWhere_22 rfl ?_
        refine pm_g_Watches_numbers (by (try simp only [pm_k_si, pm_k_sj, pm_k_sp, pm_k_sx, pm_k_sz, pm_k_sr, pm_k_sy]); assumption) pm_f_X5_9 (by (try simp only [pm_p_si, pm_p_sj, pm_p_sx, pm_p_sz, pm_p_sr, pm_p_sy]); assumption) dX5_dropWhere_23 ?_
        refine pm_iload_n dX5_dropWhere_26 rfl ?_
        refine pm_aload_n dX5_dropWhere_27 rfl ?_
        refine pm_g_Watches_numbers (by (try simp only [pm_k_si, pm_k_sj, pm_k_sp, pm_k_sx, pm_k_sz, pm_k_sr, pm_k_sy]); assumption) pm_f_X5_9 (by (try simp only [pm_p_si, pm_p_sj, pm_p_sx, pm_p_sz, pm_p_sr, pm_p_sy]); assumption) dX5_dropWhere_28 ?_
        refine pm_iload dX5_dropWhere_31 rfl ?_
        refine pm_iaload (n := i) (by (try simp only [pm_k_si, pm_k_sj, pm_k_sp, pm_k_sx, pm_k_sz, pm_k_sr, pm_k_sy]); assumption) rfl (by first | omega | (simp only [pm_n_sx, pm_n_si, pm_n_sr, pm_n_sz, pm_n_sp, pm_n_sj, pm_n_sy]; omega)) (by first | omega | (simp only [pm_n_sx, pm_n_si, pm_n_sr, pm_n_sz, pm_n_sp, pm_n_sj, pm_n_sy]; omega)) dX5_dropWhere_33 ?_
        refine pm_iastore (n := k) (by (try simp only [pm_k_si, pm_k_sj, pm_k_sp, pm_k_sx, pm_k_sz, pm_k_sr, pm_k_sy]); assumption) rfl (by first | omega | (simp only [pm_n_sx, pm_n_si, pm_n_sr, pm_n_sz, pm_n_sp, pm_n_sj, pm_n_sy]; omega)) (by first | omega | (simp only [pm_n_sx, pm_n_si, pm_n_sr, pm_n_sz, pm_n_sp, pm_n_sj, pm_n_sy]; omega)) dX5_dropWhere_34 ?_
        refine pm_aload_n dX5_dropWhere_35 rfl ?_
        refine pm_g_Watches_watchers (by (try simp only [pm_k_si, pm_k_sj, pm_k_sp, pm_k_sx, pm_k_sz, pm_k_sr, pm_k_sy]); assumption) pm_f_X5_13 (by (try simp only [pm_p_si, pm_p_sj, pm_p_sx, pm_p_sz, pm_p_sr, pm_p_sy]); assumption) dX5_dropWhere_36 ?_
        refine pm_iload_n dX5_dropWhere_39 rfl ?_
        refine pm_aload_n dX5_dropWhere_40 rfl ?_
        refine pm_g_Watches_watchers (by (try simp only [pm_k_si, pm_k_sj, pm_k_sp, pm_k_sx, pm_k_sz, pm_k_sr, pm_k_sy]); assumption) pm_f_X5_13 (by (try simp only [pm_p_si, pm_p_sj, pm_p_sx, pm_p_sz, pm_p_sr, pm_p_sy]); assumption) dX5_dropWhere_41 ?_
        refine pm_iload dX5_dropWhere_44 rfl ?_
        refine pm_iaload (n := i) (by (try simp only [pm_k_si, pm_k_sj, pm_k_sp, pm_k_sx, pm_k_sz, pm_k_sr, pm_k_sy]); assumption) rfl (by first | omega | (simp only [pm_n_sx, pm_n_si, pm_n_sr, pm_n_sz, pm_n_sp, pm_n_sj, pm_n_sy]; omega)) (by first | omega | (simp only [pm_n_sx, pm_n_si, pm_n_sr, pm_n_sz, pm_n_sp, pm_n_sj, pm_n_sy]; omega)) dX5_dropWhere_46 ?_
        refine pm_iastore (n := k) (by (try simp only [pm_k_si, pm_k_sj, pm_k_sp, pm_k_sx, pm_k_sz, pm_k_sr, pm_k_sy]); assumption) rfl (by first | omega | (simp only [pm_n_sx, pm_n_si, pm_n_sr, pm_n_sz, pm_n_sp, pm_n_sj, pm_n_sy]; omega)) (by first | omega | (simp only [pm_n_sx, pm_n_si, pm_n_sr, pm_n_sz, pm_n_sp, pm_n_sj, pm_n_sy]; omega)) dX5_dropWhere_47 ?_
        refine pm_aload_n dX5_dropWhere_48 rfl ?_
        refine pm_g_Watches_watched (by (try simp only [pm_k_si, pm_k_sj, pm_k_sp, pm_k_sx, pm_k_sz, pm_k_sr, pm_k_sy]); assumption) pm_f_X5_16 (by (try simp only [pm_p_si, pm_p_sj, pm_p_sx, pm_p_sz, pm_p_sr, pm_p_sy]); assumption) dX5_dropWhere_49 ?_
        refine pm_iload_n dX5_dropWhere_52 rfl ?_
        refine pm_aload_n dX5_dropWhere_53 rfl ?_
        refine pm_g_Watches_watched (by (try simp only [pm_k_si, pm_k_sj, pm_k_sp, pm_k_sx, pm_k_sz, pm_k_sr, pm_k_sy]); assumption) pm_f_X5_16 (by (try simp only [pm_p_si, pm_p_sj, pm_p_sx, pm_p_sz, pm_p_sr, pm_p_sy]); assumption) dX5_dropWhere_54 ?_
        refine pm_iload dX5_dropWhere_57 rfl ?_
        refine pm_iaload (n := i) (by (try simp only [pm_k_si, pm_k_sj, pm_k_sp, pm_k_sx, pm_k_sz, pm_k_sr, pm_k_sy]); assumption) rfl (by first | omega | (simp only [pm_n_sx, pm_n_si, pm_n_sr, pm_n_sz, pm_n_sp, pm_n_sj, pm_n_sy]; omega)) (by first | omega | (simp only [pm_n_sx, pm_n_si, pm_n_sr, pm_n_sz, pm_n_sp, pm_n_sj, pm_n_sy]; omega)) dX5_dropWhere_59 ?_
        refine pm_iastore (n := k) (by (try simp only [pm_k_si, pm_k_sj, pm_k_sp, pm_k_sx, pm_k_sz, pm_k_sr, pm_k_sy]); assumption) rfl (by first | omega | (simp only [pm_n_sx, pm_n_si, pm_n_sr, pm_n_sz, pm_n_sp, pm_n_sj, pm_n_sy]; omega)) (by first | omega | (simp only [pm_n_sx, pm_n_si, pm_n_sr, pm_n_sz, pm_n_sp, pm_n_sj, pm_n_sy]; omega)) dX5_dropWhere_60 ?_
        refine pm_iinc dX5_dropWhere_61 rfl rfl (by decide) ?_
        dsimp only [List.set]
        refine pm_iinc dX5_dropWhere_64 rfl rfl (by decide) ?_
        dsimp only [List.set]
        refine pm_goto (tgt := 5) dX5_dropWhere_67 (by decide) ?_
        rw [show nI i + Int32.ofInt 1 = nI (i + 1) from nI_1 _]
        first
        | exact ih (m - 1) (by omega) (i + 1) k _ (by omega) (by rw [ht]; exact hkk) hf (by rw [ht]; exact hold) (by rw [ht]; exact hget)
        | (rw [show nI k + Int32.ofInt 1 = nI (k + 1) from nI_1 _]
           refine ih (m - 1) (by omega) (i + 1) (k + 1) _ (by omega) (by rw [ht, List.length_append]; simp only [List.length_cons, List.length_nil]; omega) (pm_fr.tr hf (pm_fr.tr (pm_fr.tr (pm_fr_sx (Or.inl rfl)) (pm_fr_sx (Or.inr (Or.inl rfl)))) (pm_fr_sx (Or.inr (Or.inr rfl))))) (fun d hd j hj => ?_) (fun j hj => ?_)
           · rw [ht, List.length_append, ← hkk] at hj
             simp only [List.length_cons, List.length_nil] at hj
             simp only [pm_x_sx]
             rw [if_neg (by omega), if_neg (by omega), if_neg (by omega)]
             exact hold d hd j (by omega)
           · rw [ht, List.length_append, ← hkk] at hj
             simp only [List.length_cons, List.length_nil] at hj
             rw [ht]
             simp only [pm_x_sx]
             by_cases e : j = k
             · subst e
               rw [List.getElem?_append_right (by omega), show ∀ z : Nat, j = z → j - z = 0 from fun z e => by omega]
               · simp only [List.getElem?_cons_zero, hd12, hd13, hd23, hd12.symm, hd13.symm, hd23.symm, false_and, if_false, and_self, if_true, c1, c2, c3]
               · exact hkk
             · rw [List.getElem?_append_left (by omega), hget j (by omega)]
               simp [e])
  refine pm_iconst (v := 0) dX5_dropWhere_0 (by decide) ?_
  refine pm_istn dX5_dropWhere_1 (i := 3) rfl (by decide) ?_
  dsimp only [List.set]
  refine pm_iconst (v := 0) dX5_dropWhere_2 (by decide) ?_
  refine pm_istore dX5_dropWhere_3 (by decide) ?_
  dsimp only [List.set]
  exact loop V.length 0 0 S (by omega) rfl pm_fr.rf (fun _ _ _ _ => rfl) (fun j hj => absurd hj (Nat.not_lt_zero _))

set_option maxHeartbeats 4000000 in
set_option maxRecDepth 100000 in
theorem c_X5_dropMadeBy (G : pm_G) (l : Launch) (bs : Nat) (h n1 n2 n3 : Nat) (q : Int32) (V : List (Int32 × Int32 × Int32)) (S : pm_S) (hw : pm_wt S h n1 n2 n3) (hn : pm_i S 253 h = nI V.length) (hle : V.length ≤ 200) (hV : pm_wa S n1 n2 n3 V) : pm_M G l bs yX5_dropMadeBy cX5_dropMadeBy 2 none 1 0 0 [.ref h, .int q] S (pm_qv (fun S2 => pm_fr S S2 (fun g d => g = 253 ∧ d = h) (fun d => d = n1 ∨ d = n2 ∨ d = n3) ∧ pm_i S2 253 h = nI (V.filter (fun t => decide ((fun t => t.2.1) t ≠ q))).length ∧ pm_wa S2 n1 n2 n3 (V.filter (fun t => decide ((fun t => t.2.1) t ≠ q))))) := by
  have hw0 := hw
  obtain ⟨hk, hp1, hp2, hp3, hk1, hl1, hk2, hl2, hk3, hl3, hd12, hd13, hd23⟩ := id hw
  refine pm_Mv (L := [.ref h, .int q]) false (by decide +kernel) (fun h => by cases h) rfl (pm_en_1 rfl (pm_en_1 rfl (pm_en_0 rfl))) ?_
  generalize hQ9 : pm_xv (fun S2 => pm_fr S S2 (fun g d => g = 253 ∧ d = h) (fun d => d = n1 ∨ d = n2 ∨ d = n3) ∧ pm_i S2 253 h = nI (V.filter (fun t => decide ((fun t => t.2.1) t ≠ q))).length ∧ pm_wa S2 n1 n2 n3 (V.filter (fun t => decide ((fun t => t.2.1) t ≠ q)))) = Q9
  refine pm_aload_n dX5_dropMadeBy_0 rfl ?_
  refine pm_aload_n dX5_dropMadeBy_1 rfl ?_
  refine pm_g_Watches_watchers (by (try simp only [pm_k_si, pm_k_sj, pm_k_sp, pm_k_sx, pm_k_sz, pm_k_sr, pm_k_sy]); assumption) pm_f_X5_13 (by (try simp only [pm_p_si, pm_p_sj, pm_p_sx, pm_p_sz, pm_p_sr, pm_p_sy]); assumption) dX5_dropMadeBy_2 ?_
  refine pm_iload_n dX5_dropMadeBy_5 rfl ?_
  refine pm_vv (c_X5_dropWhere G l bs h n1 n2 n3 n2 q (fun t => t.2.1) V S hw hn hle hV (by simp) (fun i hi => rfl)) pm_y_X5_dropWhere pm_v_X5_dropWhere pm_m_X5_30 (c := 5) (r := (RX5, TX5, 5)) rfl rfl (by (try simp only [pm_k_si, pm_k_sj, pm_k_sp, pm_k_sx, pm_k_sz, pm_k_sr, pm_k_sy]); assumption) dX5_dropMadeBy_6 rfl rfl (by decide) (Nat.le_of_ble_eq_true rfl) (fun S6 h6 => ?_)
  subst hQ9
  refine pm_vret dX5_dropMadeBy_9 ?_
  exact h6

set_option maxHeartbeats 4000000 in
set_option maxRecDepth 100000 in
theorem c_X5_dropThoseOf (G : pm_G) (l : Launch) (bs : Nat) (h n1 n2 n3 : Nat) (q : Int32) (V : List (Int32 × Int32 × Int32)) (S : pm_S) (hw : pm_wt S h n1 n2 n3) (hn : pm_i S 253 h = nI V.length) (hle : V.length ≤ 200) (hV : pm_wa S n1 n2 n3 V) : pm_M G l bs yX5_dropThoseOf cX5_dropThoseOf 2 none 1 0 0 [.ref h, .int q] S (pm_qv (fun S2 => pm_fr S S2 (fun g d => g = 253 ∧ d = h) (fun d => d = n1 ∨ d = n2 ∨ d = n3) ∧ pm_i S2 253 h = nI (V.filter (fun t => decide ((fun t => t.2.2) t ≠ q))).length ∧ pm_wa S2 n1 n2 n3 (V.filter (fun t => decide ((fun t => t.2.2) t ≠ q))))) := by
  have hw0 := hw
  obtain ⟨hk, hp1, hp2, hp3, hk1, hl1, hk2, hl2, hk3, hl3, hd12, hd13, hd23⟩ := id hw
  refine pm_Mv (L := [.ref h, .int q]) false (by decide +kernel) (fun h => by cases h) rfl (pm_en_1 rfl (pm_en_1 rfl (pm_en_0 rfl))) ?_
  generalize hQ9 : pm_xv (fun S2 => pm_fr S S2 (fun g d => g = 253 ∧ d = h) (fun d => d = n1 ∨ d = n2 ∨ d = n3) ∧ pm_i S2 253 h = nI (V.filter (fun t => decide ((fun t => t.2.2) t ≠ q))).length ∧ pm_wa S2 n1 n2 n3 (V.filter (fun t => decide ((fun t => t.2.2) t ≠ q)))) = Q9
  refine pm_aload_n dX5_dropThoseOf_0 rfl ?_
  refine pm_aload_n dX5_dropThoseOf_1 rfl ?_
  refine pm_g_Watches_watched (by (try simp only [pm_k_si, pm_k_sj, pm_k_sp, pm_k_sx, pm_k_sz, pm_k_sr, pm_k_sy]); assumption) pm_f_X5_16 (by (try simp only [pm_p_si, pm_p_sj, pm_p_sx, pm_p_sz, pm_p_sr, pm_p_sy]); assumption) dX5_dropThoseOf_2 ?_
  refine pm_iload_n dX5_dropThoseOf_5 rfl ?_
  refine pm_vv (c_X5_dropWhere G l bs h n1 n2 n3 n3 q (fun t => t.2.2) V S hw hn hle hV (by simp) (fun i hi => rfl)) pm_y_X5_dropWhere pm_v_X5_dropWhere pm_m_X5_30 (c := 5) (r := (RX5, TX5, 5)) rfl rfl (by (try simp only [pm_k_si, pm_k_sj, pm_k_sp, pm_k_sx, pm_k_sz, pm_k_sr, pm_k_sy]); assumption) dX5_dropThoseOf_6 rfl rfl (by decide) (Nat.le_of_ble_eq_true rfl) (fun S6 h6 => ?_)
  subst hQ9
  refine pm_vret dX5_dropThoseOf_9 ?_
  exact h6

set_option maxHeartbeats 4000000 in
set_option maxRecDepth 100000 in
theorem c_X5_init (G : pm_G) (l : Launch) (bs : Nat) (v : Nat) (S : pm_S) (hk : pm_k S v = 6) : pm_M G l bs yX5_init cX5_init 1 none 1 3 600 [.ref v] S (pm_qv (fun S2 => ∃ b c e, pm_k S b = 0 ∧ bs ≤ b ∧ pm_k (pm_sp (pm_nw S b 9 200) 250 v (some b)) c = 0 ∧ bs ≤ c ∧ pm_k (pm_sp (pm_nw (pm_sp (pm_nw S b 9 200) 250 v (some b)) c 9 200) 251 v (some c)) e = 0 ∧ bs ≤ e ∧ S2 = pm_si (pm_si (pm_sp (pm_nw (pm_sp (pm_nw (pm_sp (pm_nw S b 9 200) 250 v (some b)) c 9 200) 251 v (some c)) e 9 200) 252 v (some e)) 253 v 0) 254 v 0)) := by
  refine pm_Mv (L := [.ref v]) true (by decide +kernel) (fun _ => rfl) rfl (pm_en_1 rfl (pm_en_0 rfl)) ?_
  generalize hQ9 : pm_xv (fun S2 => ∃ b c e, pm_k S b = 0 ∧ bs ≤ b ∧ pm_k (pm_sp (pm_nw S b 9 200) 250 v (some b)) c = 0 ∧ bs ≤ c ∧ pm_k (pm_sp (pm_nw (pm_sp (pm_nw S b 9 200) 250 v (some b)) c 9 200) 251 v (some c)) e = 0 ∧ bs ≤ e ∧ S2 = pm_si (pm_si (pm_sp (pm_nw (pm_sp (pm_nw (pm_sp (pm_nw S b 9 200) 250 v (some b)) c 9 200) 251 v (some c)) e 9 200) 252 v (some e)) 253 v 0) 254 v 0) = Q9
  refine pm_aload_n dX5_init_0 rfl ?_
  refine pm_objInit pm_m_X5_1 pm_oi pm_oc (by decide) (Nat.le_of_ble_eq_true rfl) dX5_init_1 ?_
  refine pm_aload_n dX5_init_4 rfl ?_
  refine pm_sipush (v := 200) dX5_init_5 (by decide) ?_
  refine pm_newarrI (N := 200) rfl (by decide) pm_ac_int (kc' := 2) (ks' := 400) (by decide) (by decide) dX5_init_8 (fun r8 hf8 hb8 => ?_)
  have n8 : v ≠ r8 := fun e => by subst e; simp only [pm_k_si, pm_k_sp, pm_k_nw, hk] at hf8; exact absurd hf8 (by decide)
  refine pm_p_Watches_numbers (by simp only [pm_k_si, pm_k_sp, pm_k_nw, if_neg n8]; exact hk) pm_f_X5_9 rfl rfl pm_fw_X5_9 dX5_init_10 ?_
  refine pm_aload_n dX5_init_13 rfl ?_
  refine pm_sipush (v := 200) dX5_init_14 (by decide) ?_
  refine pm_newarrI (N := 200) rfl (by decide) pm_ac_int (kc' := 1) (ks' := 200) (by decide) (by decide) dX5_init_17 (fun r17 hf17 hb17 => ?_)
  have n17 : v ≠ r17 := fun e => by subst e; simp only [pm_k_si, pm_k_sp, pm_k_nw, if_neg n8, hk] at hf17; exact absurd hf17 (by decide)
  refine pm_p_Watches_watchers (by simp only [pm_k_si, pm_k_sp, pm_k_nw, if_neg n8, if_neg n17]; exact hk) pm_f_X5_13 rfl rfl pm_fw_X5_13 dX5_init_19 ?_
  refine pm_aload_n dX5_init_22 rfl ?_
  refine pm_sipush (v := 200) dX5_init_23 (by decide) ?_
  refine pm_newarrI (N := 200) rfl (by decide) pm_ac_int (kc' := 0) (ks' := 0) (by decide) (by decide) dX5_init_26 (fun r26 hf26 hb26 => ?_)
  have n26 : v ≠ r26 := fun e => by subst e; simp only [pm_k_si, pm_k_sp, pm_k_nw, if_neg n8, if_neg n17, hk] at hf26; exact absurd hf26 (by decide)
  refine pm_p_Watches_watched (by simp only [pm_k_si, pm_k_sp, pm_k_nw, if_neg n8, if_neg n17, if_neg n26]; exact hk) pm_f_X5_16 rfl rfl pm_fw_X5_16 dX5_init_28 ?_
  refine pm_aload_n dX5_init_31 rfl ?_
  refine pm_iconst (v := 0) dX5_init_32 (by decide) ?_
  refine pm_p_Watches_count (by simp only [pm_k_si, pm_k_sp, pm_k_nw, if_neg n8, if_neg n17, if_neg n26]; exact hk) pm_f_X5_19 dX5_init_33 ?_
  refine pm_aload_n dX5_init_36 rfl ?_
  refine pm_iconst (v := 0) dX5_init_37 (by decide) ?_
  refine pm_p_Watches_made (by simp only [pm_k_si, pm_k_sp, pm_k_nw, if_neg n8, if_neg n17, if_neg n26]; exact hk) pm_f_X5_23 dX5_init_38 ?_
  subst hQ9
  refine pm_vret dX5_init_41 ?_
  exact ⟨r8, r17, r26, hf8, hb8, hf17, hb17, hf26, hb26, rfl⟩

