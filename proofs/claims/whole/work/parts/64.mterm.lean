/-! the reference: terms -/
theorem tS_at {n o k : Nat} {w : List Int32} (h : tS n (o + 1) (w.drop k)) : k + 1 < w.length ∧ ((w.getD k 0 = -1 ∧ tS n (o + 2) (w.drop (k + 1))) ∨ (w.getD k 0 ≠ -1 ∧ tok n (w.getD k 0) (w.getD (k + 1) 0) ∧ tS n o (w.drop (k + 2)))) := by
  cases e : w.drop k with
  | nil => rw [e] at h; exact h.elim
  | cons x r =>
    cases r with
    | nil => rw [e] at h; exact h.elim
    | cons y l =>
      have hl := congrArg List.length e
      rw [List.length_drop] at hl
      simp only [List.length_cons] at hl
      have e0 : w[k]? = some x := by have := List.getElem?_drop (xs := w) (i := k) (j := 0); rw [e] at this; exact this.symm
      have e1 : w[k + 1]? = some y := by have := List.getElem?_drop (xs := w) (i := k) (j := 1); rw [e] at this; exact this.symm
      have d1 : w.drop (k + 1) = y :: l := by rw [← List.drop_drop, e]; rfl
      have d2 : w.drop (k + 2) = l := by rw [← List.drop_drop, e]; rfl
      have g0 : w.getD k 0 = x := by rw [List.getD_eq_getElem?_getD, e0]; rfl
      have g1 : w.getD (k + 1) 0 = y := by rw [List.getD_eq_getElem?_getD, e1]; rfl
      rw [g0, g1, d1, d2]
      rw [e] at h
      exact ⟨by omega, h⟩
theorem tS_end {n k : Nat} {w : List Int32} (h : tS n 0 (w.drop k)) : w.length ≤ k := by
  cases e : w.drop k with
  | nil => exact List.drop_eq_nil_iff.mp e
  | cons x r => rw [e] at h; exact h.elim
theorem mT.st {M M9 : pm_N} {t k : Nat} {v : Int32} (h : mT M M9 t) (hk : 95 * t ≤ k ∧ k < 95 * t + 95) : mT M (mx M9 0 k v) t := by
  refine ⟨fun s j h1 h2 => ?_, h.2⟩
  rw [mx_1, if_neg (fun z => h2 ⟨z.1, by omega, by omega⟩)]
  exact h.1 s j h1 h2
theorem mT.s1 {M : pm_N} {t : Nat} {v : Int32} : mT M (mx M 1 t v) t := ⟨fun s j h1 _ => by rw [mx_1, if_neg h1], rfl⟩
theorem sl.st {M : pm_N} {t k : Nat} {w : List Int32} {v : Int32} (h : sl M t w) (hk : ¬ (95 * t ≤ k ∧ k < 95 * t + 95)) : sl (mx M 0 k v) t w := ⟨h.1, by rw [mx_o (by decide)]; exact h.2.1, fun i hi => by have := h.1; rw [mx_k (by omega)]; exact h.2.2 i hi⟩
set_option maxHeartbeats 4000000 in
set_option maxRecDepth 100000 in
theorem c_X7_copy (G : pm_G) (l : Launch) (bs : Nat) (A : Nat → Nat) (E : pm_S) (M : pm_N) (t b : Nat) (w : List Int32) (S : pm_S) (hm : pm_MX M S A E) (ht : t < 2945) (hb : b < 2945) (hs : sl M b w) : pm_M G l bs yX7_copy cX7_copy 4 none 0 0 0 [.ref (A 50), .int (nI t), .int (nI b)] S (pm_qv (fun S2 => ∃ M2, pm_MX M2 S2 A E ∧ mT M M2 t ∧ sl M2 t w)) := by
  have hl := hs.1
  refine pm_Mv (L := [.ref (A 50), .int (nI t), .int (nI b), pm_u]) false (by decide +kernel) (fun h => by cases h) rfl (pm_en_1 rfl (pm_en_1 rfl (pm_en_1 rfl (pm_en_0 rfl)))) ?_
  generalize hQ9 : pm_xv (fun S2 => ∃ M2, pm_MX M2 S2 A E ∧ mT M M2 t ∧ sl M2 t w) = Q9
  have loop : ∀ (m k : Nat) (M9 : pm_N) (S9 : pm_S), k + m = w.length → pm_MX M9 S9 A E → mT M M9 t → M9.1 1 t = nI w.length → sl M9 b w → (∀ i, i < k → M9.1 0 (95 * t + i) = w.getD i 0) → pm_W G l bs yX7_copy.cls cX7_copy 4 false 0 0 0 Q9 14 [.ref (A 50), .int (nI t), .int (nI b), .int (nI k)] [] S9 := by
    intro m
    induction m using Nat.strongRecOn with
    | ind m ih =>
    intro k M9 S9 hkm hm9 mt9 hz9 hs9 hw9
    refine pm_iload_n dX7_copy_14 rfl ?_
    refine pm_aload_n dX7_copy_15 rfl ?_
    refine pm_g_Model_sizes hm9.1 pm_f_X7_14 (hm9.2.1 1 (by decide)).1 dX7_copy_16 ?_
    refine pm_iload_n dX7_copy_19 rfl ?_
    refine mm_iaload (n := _) hm9 (by decide) rfl (by show _ < 2945; omega) dX7_copy_20 ?_
    rw [hs9.2.1]
    refine pm_icmp_ge (tgt := 52) dX7_copy_21 (by decide) (fun h21 => ?_) (fun h21 => ?_)
    · skip
      have h8 : k = w.length := by have := (pm_nle (a := w.length) (b := k) (by omega) (by omega)).mp h21; omega
      subst hQ9
      refine pm_vret dX7_copy_52 ?_
      exact ⟨M9, hm9, mt9, hs.1, hz9, fun i hi => hw9 i (by omega)⟩
    · skip
      have h8 : k < w.length := by rcases Nat.lt_or_ge k w.length with q | q; exact q; exact absurd ((pm_nle (a := w.length) (b := k) (by omega) (by omega)).mpr q) h21
      refine pm_aload_n dX7_copy_24 rfl ?_
      refine pm_g_Model_told hm9.1 pm_f_X7_8 (hm9.2.1 0 (by decide)).1 dX7_copy_25 ?_
      refine pm_bipush (v := 95) dX7_copy_28 (by decide) ?_
      refine pm_iload_n dX7_copy_30 rfl ?_
      refine pm_imul dX7_copy_31 ?_
      refine pm_iload_n dX7_copy_32 rfl ?_
      refine pm_iadd dX7_copy_33 ?_
      refine pm_aload_n dX7_copy_34 rfl ?_
      refine pm_g_Model_told hm9.1 pm_f_X7_8 (hm9.2.1 0 (by decide)).1 dX7_copy_35 ?_
      refine pm_bipush (v := 95) dX7_copy_38 (by decide) ?_
      refine pm_iload_n dX7_copy_40 rfl ?_
      refine pm_imul dX7_copy_41 ?_
      refine pm_iload_n dX7_copy_42 rfl ?_
      refine pm_iadd dX7_copy_43 ?_
      refine mm_iaload (n := _) hm9 (by decide) ix95 (by show _ < 279775; omega) dX7_copy_44 ?_
      rw [hs9.2.2 k h8]
      refine mm_iastore (n := _) hm9 (by decide) ix95 (by show _ < 279775; omega) dX7_copy_45 (fun S45 hm45 => ?_)
      refine pm_iinc dX7_copy_46 rfl rfl (by decide) ?_
      dsimp only [List.set]
      refine pm_goto (tgt := 14) dX7_copy_49 (by decide) ?_
      rw [show nI k + Int32.ofInt 1 = nI (k + 1) from nI_1 _]
      refine ih (m - 1) (by omega) (k + 1) _ _ (by omega) hm45 (mt9.st (by omega)) (by rw [mx_o (by decide)]; exact hz9) ?_ (fun i hi => ?_)
      · by_cases q : b = t
        · subst q
          refine ⟨hs9.1, by rw [mx_o (by decide)]; exact hs9.2.1, fun i hi => ?_⟩
          by_cases q2 : i = k
          · rw [q2]; exact mx_s
          · rw [mx_k (by omega)]; exact hs9.2.2 i hi
        · exact hs9.st (by omega)
      · by_cases q2 : i = k
        · rw [q2]; exact mx_s
        · rw [mx_k (by omega)]; exact hw9 i (by omega)
  refine pm_aload_n dX7_copy_0 rfl ?_
  refine pm_g_Model_sizes hm.1 pm_f_X7_14 (hm.2.1 1 (by decide)).1 dX7_copy_1 ?_
  refine pm_iload_n dX7_copy_4 rfl ?_
  refine pm_aload_n dX7_copy_5 rfl ?_
  refine pm_g_Model_sizes hm.1 pm_f_X7_14 (hm.2.1 1 (by decide)).1 dX7_copy_6 ?_
  refine pm_iload_n dX7_copy_9 rfl ?_
  refine mm_iaload (n := _) hm (by decide) rfl (by show _ < 2945; omega) dX7_copy_10 ?_
  rw [hs.2.1]
  refine mm_iastore (n := _) hm (by decide) rfl (by show _ < 2945; omega) dX7_copy_11 (fun S11 hm11 => ?_)
  refine pm_iconst (v := 0) dX7_copy_12 (by decide) ?_
  refine pm_istn dX7_copy_13 (i := 3) rfl (by decide) ?_
  dsimp only [List.set]
  refine loop w.length 0 _ _ (by omega) hm11 mT.s1 mx_s ?_ (fun i hi => absurd hi (by omega))
  refine ⟨hs.1, ?_, fun i hi => by rw [mx_o (by decide)]; exact hs.2.2 i hi⟩
  by_cases q : b = t
  · rw [q]; exact mx_s
  · rw [mx_k q]; exact hs.2.1

theorem getD_part {w : List Int32} {a e i : Nat} (h : i < e - a) (he : e ≤ w.length) : ((w.drop a).take (e - a)).getD i 0 = w.getD (a + i) 0 := by
  rw [List.getD_eq_getElem?_getD, List.getD_eq_getElem?_getD, List.getElem?_take, if_pos h, List.getElem?_drop]
theorem len_part {w : List Int32} {a e : Nat} (he : e ≤ w.length) : ((w.drop a).take (e - a)).length = e - a := by
  rw [List.length_take, List.length_drop]; omega
set_option maxHeartbeats 4000000 in
set_option maxRecDepth 100000 in
theorem c_X7_part (G : pm_G) (l : Launch) (bs : Nat) (A : Nat → Nat) (E : pm_S) (M : pm_N) (t b a e : Nat) (w : List Int32) (S : pm_S) (hm : pm_MX M S A E) (ht : t < 2945) (hb : b < 2945) (hbt : b ≠ t) (hae : a ≤ e) (he : e ≤ w.length) (hs : sl M b w) : pm_M G l bs yX7_part cX7_part 6 none 0 0 0 [.ref (A 50), .int (nI t), .int (nI b), .int (nI a), .int (nI e)] S (pm_qv (fun S2 => ∃ M2, pm_MX M2 S2 A E ∧ mT M M2 t ∧ sl M2 t ((w.drop a).take (e - a)))) := by
  have hl := hs.1
  refine pm_Mv (L := [.ref (A 50), .int (nI t), .int (nI b), .int (nI a), .int (nI e), pm_u]) false (by decide +kernel) (fun h => by cases h) rfl (pm_en_1 rfl (pm_en_1 rfl (pm_en_1 rfl (pm_en_1 rfl (pm_en_1 rfl (pm_en_0 rfl)))))) ?_
  generalize hQ9 : pm_xv (fun S2 => ∃ M2, pm_MX M2 S2 A E ∧ mT M M2 t ∧ sl M2 t ((w.drop a).take (e - a))) = Q9
  have loop : ∀ (m k : Nat) (M9 : pm_N) (S9 : pm_S), k + m = e → a ≤ k → pm_MX M9 S9 A E → mT M M9 t → M9.1 1 t = nI (e - a) → sl M9 b w → (∀ i, i < k - a → M9.1 0 (95 * t + i) = w.getD (a + i) 0) → pm_W G l bs yX7_part.cls cX7_part 6 false 0 0 0 Q9 13 [.ref (A 50), .int (nI t), .int (nI b), .int (nI a), .int (nI e), .int (nI k)] [] S9 := by
    intro m
    induction m using Nat.strongRecOn with
    | ind m ih =>
    intro k M9 S9 hkm hak hm9 mt9 hz9 hs9 hw9
    refine pm_iload dX7_part_13 rfl ?_
    refine pm_iload dX7_part_15 rfl ?_
    refine pm_icmp_ge (tgt := 52) dX7_part_17 (by decide) (fun h17 => ?_) (fun h17 => ?_)
    · skip
      have h8 : k = e := by have := (pm_nle (a := e) (b := k) (by omega) (by omega)).mp h17; omega
      subst hQ9
      refine pm_vret dX7_part_52 ?_
      exact ⟨M9, hm9, mt9, by rw [len_part he]; omega, by rw [len_part he]; exact hz9, fun i hi => by rw [len_part he] at hi; rw [getD_part hi he]; exact hw9 i (by omega)⟩
    · skip
      have h8 : k < e := by rcases Nat.lt_or_ge k e with q | q; exact q; exact absurd ((pm_nle (a := e) (b := k) (by omega) (by omega)).mpr q) h17
      refine pm_aload_n dX7_part_20 rfl ?_
      refine pm_g_Model_told hm9.1 pm_f_X7_8 (hm9.2.1 0 (by decide)).1 dX7_part_21 ?_
      refine pm_bipush (v := 95) dX7_part_24 (by decide) ?_
      refine pm_iload_n dX7_part_26 rfl ?_
      refine pm_imul dX7_part_27 ?_
      refine pm_iload dX7_part_28 rfl ?_
      refine pm_iadd dX7_part_30 ?_
      refine pm_iload_n dX7_part_31 rfl ?_
      refine pm_isub dX7_part_32 ?_
      refine pm_aload_n dX7_part_33 rfl ?_
      refine pm_g_Model_told hm9.1 pm_f_X7_8 (hm9.2.1 0 (by decide)).1 dX7_part_34 ?_
      refine pm_bipush (v := 95) dX7_part_37 (by decide) ?_
      refine pm_iload_n dX7_part_39 rfl ?_
      refine pm_imul dX7_part_40 ?_
      refine pm_iload dX7_part_41 rfl ?_
      refine pm_iadd dX7_part_43 ?_
      refine mm_iaload (n := _) hm9 (by decide) ix95 (by show _ < 279775; omega) dX7_part_44 ?_
      rw [hs9.2.2 k (by omega)]
      refine mm_iastore (n := 95 * t + (k - a)) hm9 (by decide) (by rw [ix95, pk_sub (by omega)]; congr 1; omega) (by show _ < 279775; omega) dX7_part_45 (fun S45 hm45 => ?_)
      refine pm_iinc dX7_part_46 rfl rfl (by decide) ?_
      dsimp only [List.set]
      refine pm_goto (tgt := 13) dX7_part_49 (by decide) ?_
      rw [show nI k + Int32.ofInt 1 = nI (k + 1) from nI_1 _]
      refine ih (m - 1) (by omega) (k + 1) _ _ (by omega) (by omega) hm45 (mt9.st (by omega)) (by rw [mx_o (by decide)]; exact hz9) (hs9.st (by omega)) (fun i hi => ?_)
      by_cases q2 : i = k - a
      · rw [q2, mx_s, show a + (k - a) = k from by omega]
      · rw [mx_k (by omega)]; exact hw9 i (by omega)
  refine pm_aload_n dX7_part_0 rfl ?_
  refine pm_g_Model_sizes hm.1 pm_f_X7_14 (hm.2.1 1 (by decide)).1 dX7_part_1 ?_
  refine pm_iload_n dX7_part_4 rfl ?_
  refine pm_iload dX7_part_5 rfl ?_
  refine pm_iload_n dX7_part_7 rfl ?_
  refine pm_isub dX7_part_8 ?_
  rw [pk_sub hae]
  refine mm_iastore (n := _) hm (by decide) rfl (by show _ < 2945; omega) dX7_part_9 (fun S9 hm9 => ?_)
  refine pm_iload_n dX7_part_10 rfl ?_
  refine pm_istore dX7_part_11 (by decide) ?_
  dsimp only [List.set]
  exact loop (e - a) a _ _ (by omega) (Nat.le_refl _) hm9 mT.s1 mx_s (mT.s1.sl hbt hs) (fun i hi => absurd hi (by omega))

theorem getD_pair {u w : List Int32} {i : Nat} : (-1 :: (u ++ w)).getD i 0 = if i = 0 then -1 else if i - 1 < u.length then u.getD (i - 1) 0 else w.getD (i - 1 - u.length) 0 := by
  cases i with
  | zero => rfl
  | succ i =>
    rw [if_neg (by omega), show i + 1 - 1 = i from rfl, List.getD_eq_getElem?_getD, List.getElem?_cons_succ, List.getElem?_append]
    split
    · rw [List.getD_eq_getElem?_getD]
    · rw [List.getD_eq_getElem?_getD]
set_option maxHeartbeats 4000000 in
set_option maxRecDepth 100000 in
theorem c_X7_pair (G : pm_G) (l : Launch) (bs : Nat) (A : Nat → Nat) (E : pm_S) (M : pm_N) (t a b : Nat) (u w : List Int32) (S : pm_S) (hm : pm_MX M S A E) (ht : t < 2945) (ha : a < 2945) (hb : b < 2945) (hat : a ≠ t) (hbt : b ≠ t) (hlen : 1 + u.length + w.length ≤ 95) (hu : sl M a u) (hw : sl M b w) : pm_M G l bs yX7_pair cX7_pair 5 none 0 0 0 [.ref (A 50), .int (nI t), .int (nI a), .int (nI b)] S (pm_qv (fun S2 => ∃ M2, pm_MX M2 S2 A E ∧ mT M M2 t ∧ sl M2 t (-1 :: (u ++ w)))) := by
  refine pm_Mv (L := [.ref (A 50), .int (nI t), .int (nI a), .int (nI b), pm_u]) false (by decide +kernel) (fun h => by cases h) rfl (pm_en_1 rfl (pm_en_1 rfl (pm_en_1 rfl (pm_en_1 rfl (pm_en_0 rfl))))) ?_
  generalize hQ9 : pm_xv (fun S2 => ∃ M2, pm_MX M2 S2 A E ∧ mT M M2 t ∧ sl M2 t (-1 :: (u ++ w))) = Q9
  have loopB : ∀ (m k : Nat) (M9 : pm_N) (S9 : pm_S), k + m = w.length → pm_MX M9 S9 A E → mT M M9 t → M9.1 1 t = nI (1 + u.length + w.length) → M9.1 0 (95 * t + 0) = -1 → sl M9 a u → sl M9 b w → (∀ i, i < u.length → M9.1 0 (95 * t + (1 + i)) = u.getD i 0) → (∀ i, i < k → M9.1 0 (95 * t + (1 + u.length + i)) = w.getD i 0) → pm_W G l bs yX7_pair.cls cX7_pair 5 false 0 0 0 Q9 80 [.ref (A 50), .int (nI t), .int (nI a), .int (nI b), .int (nI k)] [] S9 := by
    intro m
    induction m using Nat.strongRecOn with
    | ind m ih =>
    intro k M9 S9 hkm hm9 mt9 hz9 h09 hu9 hw9 ha9 hb9
    refine pm_iload dX7_pair_80 rfl ?_
    refine pm_aload_n dX7_pair_82 rfl ?_
    refine pm_g_Model_sizes hm9.1 pm_f_X7_14 (hm9.2.1 1 (by decide)).1 dX7_pair_83 ?_
    refine pm_iload_n dX7_pair_86 rfl ?_
    refine mm_iaload (n := _) hm9 (by decide) rfl (by show _ < 2945; omega) dX7_pair_87 ?_
    rw [hw9.2.1]
    refine pm_icmp_ge (tgt := 130) dX7_pair_88 (by decide) (fun h88 => ?_) (fun h88 => ?_)
    · skip
      have h8 : k = w.length := by have := (pm_nle (a := w.length) (b := k) (by omega) (by omega)).mp h88; omega
      subst hQ9
      refine pm_vret dX7_pair_130 ?_
      refine ⟨M9, hm9, mt9, by simp only [List.length_cons, List.length_append]; omega, by rw [hz9]; congr 1; simp only [List.length_cons, List.length_append]; omega, fun i hi => ?_⟩
      simp only [List.length_cons, List.length_append] at hi
      rw [getD_pair]
      by_cases q0 : i = 0
      · rw [if_pos q0, q0]; exact h09
      · rw [if_neg q0]
        by_cases q1 : i - 1 < u.length
        · rw [if_pos q1]
          have := ha9 (i - 1) q1
          rw [show 95 * t + (1 + (i - 1)) = 95 * t + i from by omega] at this
          exact this
        · rw [if_neg q1]
          have := hb9 (i - 1 - u.length) (by omega)
          rw [show 95 * t + (1 + u.length + (i - 1 - u.length)) = 95 * t + i from by omega] at this
          exact this
    · skip
      have h8 : k < w.length := by rcases Nat.lt_or_ge k w.length with q | q; exact q; exact absurd ((pm_nle (a := w.length) (b := k) (by omega) (by omega)).mpr q) h88
      refine pm_aload_n dX7_pair_91 rfl ?_
      refine pm_g_Model_told hm9.1 pm_f_X7_8 (hm9.2.1 0 (by decide)).1 dX7_pair_92 ?_
      refine pm_bipush (v := 95) dX7_pair_95 (by decide) ?_
      refine pm_iload_n dX7_pair_97 rfl ?_
      refine pm_imul dX7_pair_98 ?_
      refine pm_iconst (v := 1) dX7_pair_99 (by decide) ?_
      refine pm_iadd dX7_pair_100 ?_
      refine pm_aload_n dX7_pair_101 rfl ?_
      refine pm_g_Model_sizes hm9.1 pm_f_X7_14 (hm9.2.1 1 (by decide)).1 dX7_pair_102 ?_
      refine pm_iload_n dX7_pair_105 rfl ?_
      refine mm_iaload (n := _) hm9 (by decide) rfl (by show _ < 2945; omega) dX7_pair_106 ?_
      refine pm_iadd dX7_pair_107 ?_
      refine pm_iload dX7_pair_108 rfl ?_
      refine pm_iadd dX7_pair_110 ?_
      refine pm_aload_n dX7_pair_111 rfl ?_
      refine pm_g_Model_told hm9.1 pm_f_X7_8 (hm9.2.1 0 (by decide)).1 dX7_pair_112 ?_
      refine pm_bipush (v := 95) dX7_pair_115 (by decide) ?_
      refine pm_iload_n dX7_pair_117 rfl ?_
      refine pm_imul dX7_pair_118 ?_
      refine pm_iload dX7_pair_119 rfl ?_
      refine pm_iadd dX7_pair_121 ?_
      refine mm_iaload (n := _) hm9 (by decide) ix95 (by show _ < 279775; omega) dX7_pair_122 ?_
      rw [hw9.2.2 k h8]
      refine mm_iastore (n := 95 * t + (1 + u.length + k)) hm9 (by decide) (by rw [ix95b, nI_1, hu9.2.1, nI_add, nI_add]; congr 1; omega) (by show _ < 279775; omega) dX7_pair_123 (fun S123 hm123 => ?_)
      refine pm_iinc dX7_pair_124 rfl rfl (by decide) ?_
      dsimp only [List.set]
      refine pm_goto (tgt := 80) dX7_pair_127 (by decide) ?_
      rw [show nI k + Int32.ofInt 1 = nI (k + 1) from nI_1 _]
      refine ih (m - 1) (by omega) (k + 1) _ _ (by omega) hm123 (mt9.st (by omega)) (by rw [mx_o (by decide)]; exact hz9) (by rw [mx_k (by omega)]; exact h09) (hu9.st (by omega)) (hw9.st (by omega)) (fun i hi => by rw [mx_k (by omega)]; exact ha9 i hi) (fun i hi => ?_)
      by_cases q2 : i = k
      · rw [q2]; exact mx_s
      · rw [mx_k (by omega)]; exact hb9 i (by omega)
  have loopA : ∀ (m k : Nat) (M9 : pm_N) (S9 : pm_S), k + m = u.length → pm_MX M9 S9 A E → mT M M9 t → M9.1 1 t = nI (1 + u.length + w.length) → M9.1 0 (95 * t + 0) = -1 → sl M9 a u → sl M9 b w → (∀ i, i < k → M9.1 0 (95 * t + (1 + i)) = u.getD i 0) → pm_W G l bs yX7_pair.cls cX7_pair 5 false 0 0 0 Q9 34 [.ref (A 50), .int (nI t), .int (nI a), .int (nI b), .int (nI k)] [] S9 := by
    intro m
    induction m using Nat.strongRecOn with
    | ind m ih =>
    intro k M9 S9 hkm hm9 mt9 hz9 h09 hu9 hw9 ha9
    refine pm_iload dX7_pair_34 rfl ?_
    refine pm_aload_n dX7_pair_36 rfl ?_
    refine pm_g_Model_sizes hm9.1 pm_f_X7_14 (hm9.2.1 1 (by decide)).1 dX7_pair_37 ?_
    refine pm_iload_n dX7_pair_40 rfl ?_
    refine mm_iaload (n := _) hm9 (by decide) rfl (by show _ < 2945; omega) dX7_pair_41 ?_
    rw [hu9.2.1]
    refine pm_icmp_ge (tgt := 77) dX7_pair_42 (by decide) (fun h42 => ?_) (fun h42 => ?_)
    · skip
      have h8 : k = u.length := by have := (pm_nle (a := u.length) (b := k) (by omega) (by omega)).mp h42; omega
      refine pm_iconst (v := 0) dX7_pair_77 (by decide) ?_
      refine pm_istore dX7_pair_78 (by decide) ?_
      dsimp only [List.set]
      exact loopB w.length 0 _ _ (by omega) hm9 mt9 hz9 h09 hu9 hw9 (fun i hi => ha9 i (by omega)) (fun i hi => absurd hi (by omega))
    · skip
      have h8 : k < u.length := by rcases Nat.lt_or_ge k u.length with q | q; exact q; exact absurd ((pm_nle (a := u.length) (b := k) (by omega) (by omega)).mpr q) h42
      refine pm_aload_n dX7_pair_45 rfl ?_
      refine pm_g_Model_told hm9.1 pm_f_X7_8 (hm9.2.1 0 (by decide)).1 dX7_pair_46 ?_
      refine pm_bipush (v := 95) dX7_pair_49 (by decide) ?_
      refine pm_iload_n dX7_pair_51 rfl ?_
      refine pm_imul dX7_pair_52 ?_
      refine pm_iconst (v := 1) dX7_pair_53 (by decide) ?_
      refine pm_iadd dX7_pair_54 ?_
      refine pm_iload dX7_pair_55 rfl ?_
      refine pm_iadd dX7_pair_57 ?_
      refine pm_aload_n dX7_pair_58 rfl ?_
      refine pm_g_Model_told hm9.1 pm_f_X7_8 (hm9.2.1 0 (by decide)).1 dX7_pair_59 ?_
      refine pm_bipush (v := 95) dX7_pair_62 (by decide) ?_
      refine pm_iload_n dX7_pair_64 rfl ?_
      refine pm_imul dX7_pair_65 ?_
      refine pm_iload dX7_pair_66 rfl ?_
      refine pm_iadd dX7_pair_68 ?_
      refine mm_iaload (n := _) hm9 (by decide) ix95 (by show _ < 279775; omega) dX7_pair_69 ?_
      rw [hu9.2.2 k h8]
      refine mm_iastore (n := 95 * t + (1 + k)) hm9 (by decide) (by rw [ix95b, nI_1, nI_add]; congr 1; omega) (by show _ < 279775; omega) dX7_pair_70 (fun S70 hm70 => ?_)
      refine pm_iinc dX7_pair_71 rfl rfl (by decide) ?_
      dsimp only [List.set]
      refine pm_goto (tgt := 34) dX7_pair_74 (by decide) ?_
      rw [show nI k + Int32.ofInt 1 = nI (k + 1) from nI_1 _]
      refine ih (m - 1) (by omega) (k + 1) _ _ (by omega) hm70 (mt9.st (by omega)) (by rw [mx_o (by decide)]; exact hz9) (by rw [mx_k (by omega)]; exact h09) (hu9.st (by omega)) (hw9.st (by omega)) (fun i hi => ?_)
      by_cases q2 : i = k
      · rw [q2]; exact mx_s
      · rw [mx_k (by omega)]; exact ha9 i (by omega)
  refine pm_aload_n dX7_pair_0 rfl ?_
  refine pm_g_Model_sizes hm.1 pm_f_X7_14 (hm.2.1 1 (by decide)).1 dX7_pair_1 ?_
  refine pm_iload_n dX7_pair_4 rfl ?_
  refine pm_iconst (v := 1) dX7_pair_5 (by decide) ?_
  refine pm_aload_n dX7_pair_6 rfl ?_
  refine pm_g_Model_sizes hm.1 pm_f_X7_14 (hm.2.1 1 (by decide)).1 dX7_pair_7 ?_
  refine pm_iload_n dX7_pair_10 rfl ?_
  refine mm_iaload (n := _) hm (by decide) rfl (by show _ < 2945; omega) dX7_pair_11 ?_
  refine pm_iadd dX7_pair_12 ?_
  refine pm_aload_n dX7_pair_13 rfl ?_
  refine pm_g_Model_sizes hm.1 pm_f_X7_14 (hm.2.1 1 (by decide)).1 dX7_pair_14 ?_
  refine pm_iload_n dX7_pair_17 rfl ?_
  refine mm_iaload (n := _) hm (by decide) rfl (by show _ < 2945; omega) dX7_pair_18 ?_
  refine pm_iadd dX7_pair_19 ?_
  rw [hu.2.1, hw.2.1, show (1 : Int32) + nI u.length + nI w.length = nI (1 + u.length + w.length) from by rw [show (1 : Int32) = nI 1 from rfl, nI_add, nI_add]]
  refine mm_iastore (n := _) hm (by decide) rfl (by show _ < 2945; omega) dX7_pair_20 (fun S20 hm20 => ?_)
  refine pm_aload_n dX7_pair_21 rfl ?_
  refine pm_g_Model_told hm20.1 pm_f_X7_8 (hm20.2.1 0 (by decide)).1 dX7_pair_22 ?_
  refine pm_bipush (v := 95) dX7_pair_25 (by decide) ?_
  refine pm_iload_n dX7_pair_27 rfl ?_
  refine pm_imul dX7_pair_28 ?_
  refine pm_iconst (v := (-1)) dX7_pair_29 (by decide) ?_
  refine mm_iastore (n := _) hm20 (by decide) ix95b (by show _ < 279775; omega) dX7_pair_30 (fun S30 hm30 => ?_)
  refine pm_iconst (v := 0) dX7_pair_31 (by decide) ?_
  refine pm_istore dX7_pair_32 (by decide) ?_
  dsimp only [List.set]
  exact loopA u.length 0 _ _ (by omega) hm30 (mT.s1.st (by omega)) (by rw [mx_o (by decide)]; exact mx_s) mx_s ((mT.s1.sl hat hu).st (by omega)) ((mT.s1.sl hbt hw).st (by omega)) (fun i hi => absurd hi (by omega))

set_option maxHeartbeats 4000000 in
set_option maxRecDepth 100000 in
theorem c_X7_behind (G : pm_G) (l : Launch) (bs : Nat) (A : Nat → Nat) (E : pm_S) (M : pm_N) (n t : Nat) (w : List Int32) (S : pm_S) (hm : pm_MX M S A E) (ht : t < 2945) (hs : sl M t w) (h1 : tS n 2 (w.drop 1)) : pm_M G l bs yX7_behind cX7_behind 6 (some .int) 0 0 0 [.ref (A 50), .int (nI t), .int 1] S (pm_qi (fun x S2 => x = nI (tl_e 95 w 1 1) ∧ S2 = S)) := by
  have hl := hs.1
  refine pm_Mi (L := [.ref (A 50), .int (nI t), .int 1, pm_u, pm_u, pm_u]) (by decide +kernel) rfl (pm_en_1 rfl (pm_en_1 rfl (pm_en_1 rfl (pm_en_0 rfl)))) ?_
  generalize hQ9 : pm_xi (fun x S2 => x = nI (tl_e 95 w 1 1) ∧ S2 = S) = Q9
  have loop : ∀ (f k o : Nat) (v5 : Value), tS n (o + 1) (w.drop k) → (w.drop k).length ≤ f → o ≤ k ∧ k ≤ 96 → tl_e f w k o = tl_e 95 w 1 1 → pm_W G l bs yX7_behind.cls cX7_behind 6 false 0 0 0 Q9 5 [.ref (A 50), .int (nI t), .int 1, .int (nI o), .int (nI k), v5] [] S := by
    intro f
    induction f using Nat.strongRecOn with
    | ind f ih =>
    intro k o v5 ho hf hok hR
    refine pm_iload_n dX7_behind_5 rfl ?_
    refine pm_if_le (tgt := 63) dX7_behind_6 (by decide) (fun h6 => ?_) (fun h6 => ?_)
    · skip
      have h8 : o = 0 := by rcases Nat.lt_or_ge 0 o with q | q; exact absurd h6 (nI_nle q (by omega)); omega
      refine pm_iload dX7_behind_63 rfl ?_
      subst hQ9
      refine pm_iret dX7_behind_65 ?_
      exact ⟨by rw [← hR, h8, tl_e_stop (fun z => by omega)], rfl⟩
    · skip
      obtain ⟨o, rfl⟩ : ∃ o2, o = o2 + 1 := ⟨o - 1, by rcases Nat.lt_or_ge 0 o with q | q; omega; exact absurd (by rw [show o = 0 from by omega]; decide) h6⟩
      obtain ⟨hk, hc⟩ := tS_at (o := o + 1) ho
      obtain ⟨f, rfl⟩ : ∃ f2, f = f2 + 1 := ⟨f - 1, by have := hf; rw [List.length_drop] at this; omega⟩
      have eg : w[k]? = some (w.getD k 0) := by rw [List.getD_eq_getElem?_getD, List.getElem?_eq_getElem (by omega)]; rfl
      rw [tl_e, if_pos ⟨by omega, by omega⟩, eg] at hR
      rw [List.length_drop] at hf
      refine pm_aload_n dX7_behind_9 rfl ?_
      refine pm_g_Model_told hm.1 pm_f_X7_8 (hm.2.1 0 (by decide)).1 dX7_behind_10 ?_
      refine pm_bipush (v := 95) dX7_behind_13 (by decide) ?_
      refine pm_iload_n dX7_behind_15 rfl ?_
      refine pm_imul dX7_behind_16 ?_
      refine pm_iload dX7_behind_17 rfl ?_
      refine pm_iadd dX7_behind_19 ?_
      refine mm_iaload (n := _) hm (by decide) ix95 (by show _ < 279775; omega) dX7_behind_20 ?_
      rw [hs.2.2 k (by omega)]
      refine pm_iconst (v := (-1)) dX7_behind_21 (by decide) ?_
      refine pm_icmp_ne (tgt := 29) dX7_behind_22 (by decide) (fun h22 => ?_) (fun h22 => ?_)
      · skip
        have g1 : ¬ w.getD k 0 = -1 := h22
        rw [if_neg (fun z => g1 (Option.some.inj z))] at hR
        have ho2 : tS n (o + 1) (w.drop (k + 2)) := by rcases hc with ⟨q, -⟩ | ⟨-, -, q⟩; exact absurd q g1; exact q
        refine pm_iconst (v := 0) dX7_behind_29 (by decide) ?_
        refine pm_istore dX7_behind_30 (by decide) ?_
        dsimp only [List.set]
        refine pm_iload_n dX7_behind_32 rfl ?_
        refine pm_iload dX7_behind_33 rfl ?_
        refine pm_if_eq (tgt := 42) dX7_behind_35 (by decide) (fun h35 => ?_) (fun h35 => ?_)
        case refine_2 => exact absurd (by decide) h35
        refine pm_iconst (v := (-1)) dX7_behind_42 (by decide) ?_
        refine pm_iadd dX7_behind_43 ?_
        refine pm_istn dX7_behind_44 (i := 3) rfl (by decide) ?_
        dsimp only [List.set]
        refine pm_iload dX7_behind_45 rfl ?_
        refine pm_iload dX7_behind_47 rfl ?_
        refine pm_if_eq (tgt := 56) dX7_behind_49 (by decide) (fun h49 => ?_) (fun h49 => ?_)
        case refine_2 => exact absurd (by decide) h49
        refine pm_iconst (v := 2) dX7_behind_56 (by decide) ?_
        refine pm_iadd dX7_behind_57 ?_
        refine pm_istore dX7_behind_58 (by decide) ?_
        dsimp only [List.set]
        refine pm_goto (tgt := 5) dX7_behind_60 (by decide) ?_
        first
        | (rw [show nI (o + 1) + 1 = nI (o + 1 + 1) from nI_1 _, show nI k + 1 = nI (k + 1) from nI_1 _]; exact ih f (by omega) (k + 1) (o + 1 + 1) _ ho2 (by rw [List.length_drop]; omega) (by omega) hR)
        | (rw [show nI (o + 1) + -1 = nI o from pk_m1 _, show nI k + 2 = nI (k + 2) from nI_add _ _]; exact ih f (by omega) (k + 2) o _ ho2 (by rw [List.length_drop]; omega) (by omega) hR)
      · skip
        have g1 : w.getD k 0 = -1 := h22
        rw [if_pos (by rw [g1])] at hR
        have ho2 : tS n (o + 1 + 1 + 1) (w.drop (k + 1)) := by rcases hc with ⟨-, q⟩ | ⟨q, -⟩; exact q; exact absurd g1 q
        refine pm_iconst (v := 1) dX7_behind_25 (by decide) ?_
        refine pm_goto (tgt := 30) dX7_behind_26 (by decide) ?_
        refine pm_istore dX7_behind_30 (by decide) ?_
        dsimp only [List.set]
        refine pm_iload_n dX7_behind_32 rfl ?_
        refine pm_iload dX7_behind_33 rfl ?_
        refine pm_if_eq (tgt := 42) dX7_behind_35 (by decide) (fun h35 => ?_) (fun h35 => ?_)
        case refine_1 => exact absurd h35 (by decide)
        refine pm_iconst (v := 1) dX7_behind_38 (by decide) ?_
        refine pm_goto (tgt := 43) dX7_behind_39 (by decide) ?_
        refine pm_iadd dX7_behind_43 ?_
        refine pm_istn dX7_behind_44 (i := 3) rfl (by decide) ?_
        dsimp only [List.set]
        refine pm_iload dX7_behind_45 rfl ?_
        refine pm_iload dX7_behind_47 rfl ?_
        refine pm_if_eq (tgt := 56) dX7_behind_49 (by decide) (fun h49 => ?_) (fun h49 => ?_)
        case refine_1 => exact absurd h49 (by decide)
        refine pm_iconst (v := 1) dX7_behind_52 (by decide) ?_
        refine pm_goto (tgt := 57) dX7_behind_53 (by decide) ?_
        refine pm_iadd dX7_behind_57 ?_
        refine pm_istore dX7_behind_58 (by decide) ?_
        dsimp only [List.set]
        refine pm_goto (tgt := 5) dX7_behind_60 (by decide) ?_
        first
        | (rw [show nI (o + 1) + 1 = nI (o + 1 + 1) from nI_1 _, show nI k + 1 = nI (k + 1) from nI_1 _]; exact ih f (by omega) (k + 1) (o + 1 + 1) _ ho2 (by rw [List.length_drop]; omega) (by omega) hR)
        | (rw [show nI (o + 1) + -1 = nI o from pk_m1 _, show nI k + 2 = nI (k + 2) from nI_add _ _]; exact ih f (by omega) (k + 2) o _ ho2 (by rw [List.length_drop]; omega) (by omega) hR)
  refine pm_iconst (v := 1) dX7_behind_0 (by decide) ?_
  refine pm_istn dX7_behind_1 (i := 3) rfl (by decide) ?_
  dsimp only [List.set]
  refine pm_iload_n dX7_behind_2 rfl ?_
  refine pm_istore dX7_behind_3 (by decide) ?_
  dsimp only [List.set]
  exact loop 95 1 1 _ h1 (by rw [List.length_drop]; omega) (by omega) rfl

theorem kd_inj {n : Nat} {x y v v2 : Int32} (hx : x = -1 ∨ tok n x v) (hy : y = -1 ∨ tok n y v2) (h : pm_kd x = pm_kd y) : x = y := by
  have q : ∀ z v, z = -1 ∨ tok n z v → z = -1 ∨ z = 0 ∨ z = 1 ∨ z = 2 := fun z v hz => by
    rcases hz with rfl | rfl | ⟨rfl, -⟩ | ⟨rfl, -⟩
    · exact Or.inl rfl
    · exact Or.inr (Or.inl rfl)
    · exact Or.inr (Or.inr (Or.inl rfl))
    · exact Or.inr (Or.inr (Or.inr rfl))
  rcases q x v hx with rfl | rfl | rfl | rfl <;> rcases q y v2 hy with rfl | rfl | rfl | rfl <;> first | rfl | exact absurd h (by decide)
theorem kd_n3 {n : Nat} {x v : Int32} (h1 : x ≠ -1) (hx : tok n x v) : pm_kd x ≠ 3 := by
  rcases hx with rfl | ⟨rfl, -⟩ | ⟨rfl, -⟩ <;> decide
set_option maxHeartbeats 4000000 in
set_option maxRecDepth 100000 in
theorem c_X7_compare (G : pm_G) (l : Launch) (bs : Nat) (A : Nat → Nat) (E : pm_S) (M : pm_N) (n a b : Nat) (u w : List Int32) (S : pm_S) (hm : pm_MX M S A E) (ha : a < 2945) (hb : b < 2945) (hu : sl M a u) (hw : sl M b w) (h1 : tW n u) (h2 : tW n w) : pm_M G l bs yX7_compare cX7_compare 8 (some .int) 0 0 0 [.ref (A 50), .int (nI a), .int (nI b)] S (pm_qi (fun x S2 => x = zCmp u w ∧ S2 = S)) := by
  have hl1 := hu.1
  have hl2 := hw.1
  refine pm_Mi (L := [.ref (A 50), .int (nI a), .int (nI b), pm_u, pm_u, pm_u, pm_u, pm_u]) (by decide +kernel) rfl (pm_en_1 rfl (pm_en_1 rfl (pm_en_1 rfl (pm_en_0 rfl)))) ?_
  generalize hQ9 : pm_xi (fun x S2 => x = zCmp u w ∧ S2 = S) = Q9
  have loop : ∀ (f k o : Nat) (v4 v5 v6 v7 : Value), tS n o (u.drop k) → tS n o (w.drop k) → (u.drop k).length ≤ f → k ≤ 96 → tl_c f u w (min u.length w.length) k = zCmp u w → pm_W G l bs yX7_compare.cls cX7_compare 8 false 0 0 0 Q9 2 [.ref (A 50), .int (nI a), .int (nI b), .int (nI k), v4, v5, v6, v7] [] S := by
    intro f
    induction f using Nat.strongRecOn with
    | ind f ih =>
    intro k o v4 v5 v6 v7 ho1 ho2 hf hk96 hR
    refine pm_iload_n dX7_compare_2 rfl ?_
    refine pm_aload_n dX7_compare_3 rfl ?_
    refine pm_g_Model_sizes hm.1 pm_f_X7_14 (hm.2.1 1 (by decide)).1 dX7_compare_4 ?_
    refine pm_iload_n dX7_compare_7 rfl ?_
    refine mm_iaload (n := _) hm (by decide) rfl (by show _ < 2945; omega) dX7_compare_8 ?_
    rw [hu.2.1]
    refine pm_icmp_ge (tgt := 142) dX7_compare_9 (by decide) (fun h9 => ?_) (fun h9 => ?_)
    · skip
      have h8 : u.length ≤ k := (pm_nle (a := u.length) (b := k) (by omega) (by omega)).mp h9
      rw [tl_c_stop (fun z => by omega)] at hR
      refine pm_iconst (v := 0) dX7_compare_142 (by decide) ?_
      subst hQ9
      refine pm_iret dX7_compare_143 ?_
      exact ⟨hR, rfl⟩
    · skip
      have h8 : k < u.length := by rcases Nat.lt_or_ge k u.length with q | q; exact q; exact absurd ((pm_nle (a := u.length) (b := k) (by omega) (by omega)).mpr q) h9
      obtain ⟨o, rfl⟩ : ∃ o2, o = o2 + 1 := by
        cases o with
        | zero => exact absurd (tS_end ho1) (by omega)
        | succ o => exact ⟨o, rfl⟩
      obtain ⟨k1, c1⟩ := tS_at (o := o) ho1
      obtain ⟨k2, c2⟩ := tS_at (o := o) ho2
      rw [List.length_drop] at hf
      obtain ⟨f, rfl⟩ : ∃ f2, f = f2 + 1 := ⟨f - 1, by omega⟩
      rw [tl_c, if_pos (by omega)] at hR
      have t1 : u.getD k 0 = -1 ∨ tok n (u.getD k 0) (u.getD (k + 1) 0) := by rcases c1 with ⟨q, -⟩ | ⟨-, q, -⟩; exact Or.inl q; exact Or.inr q
      have t2 : w.getD k 0 = -1 ∨ tok n (w.getD k 0) (w.getD (k + 1) 0) := by rcases c2 with ⟨q, -⟩ | ⟨-, q, -⟩; exact Or.inl q; exact Or.inr q
      refine pm_aload_n dX7_compare_12 rfl ?_
      refine pm_g_Model_told hm.1 pm_f_X7_8 (hm.2.1 0 (by decide)).1 dX7_compare_13 ?_
      refine pm_bipush (v := 95) dX7_compare_16 (by decide) ?_
      refine pm_iload_n dX7_compare_18 rfl ?_
      refine pm_imul dX7_compare_19 ?_
      refine pm_iload_n dX7_compare_20 rfl ?_
      refine pm_iadd dX7_compare_21 ?_
      refine mm_iaload (n := _) hm (by decide) ix95 (by show _ < 279775; omega) dX7_compare_22 ?_
      rw [hu.2.2 k h8]
      refine pm_istore dX7_compare_23 (by decide) ?_
      dsimp only [List.set]
      refine pm_aload_n dX7_compare_25 rfl ?_
      refine pm_g_Model_told hm.1 pm_f_X7_8 (hm.2.1 0 (by decide)).1 dX7_compare_26 ?_
      refine pm_bipush (v := 95) dX7_compare_29 (by decide) ?_
      refine pm_iload_n dX7_compare_31 rfl ?_
      refine pm_imul dX7_compare_32 ?_
      refine pm_iload_n dX7_compare_33 rfl ?_
      refine pm_iadd dX7_compare_34 ?_
      refine mm_iaload (n := _) hm (by decide) ix95 (by show _ < 279775; omega) dX7_compare_35 ?_
      rw [hw.2.2 k (by omega)]
      refine pm_istore dX7_compare_36 (by decide) ?_
      dsimp only [List.set]
      refine pm_iload dX7_compare_38 rfl ?_
      refine pm_iload dX7_compare_40 rfl ?_
      refine pm_icmp_eq (tgt := 78) dX7_compare_42 (by decide) (fun h42 => ?_) (fun h42 => ?_)
      · skip
        rw [if_pos (by rw [h42])] at hR
        refine pm_iinc dX7_compare_78 rfl rfl (by decide) ?_
        dsimp only [List.set]
        rw [show nI k + Int32.ofInt 1 = nI (k + 1) from nI_1 _]
        refine pm_iload dX7_compare_81 rfl ?_
        refine pm_iconst (v := (-1)) dX7_compare_83 (by decide) ?_
        refine pm_icmp_ne (tgt := 90) dX7_compare_84 (by decide) (fun h84 => ?_) (fun h84 => ?_)
        · skip
          have c1b := c1.resolve_left (fun z => h84 z.1)
          have c2b := c2.resolve_left (fun z => h84 (h42.trans z.1))
          rw [if_neg (kd_n3 h84 c1b.2.1)] at hR
          refine pm_aload_n dX7_compare_90 rfl ?_
          refine pm_g_Model_told hm.1 pm_f_X7_8 (hm.2.1 0 (by decide)).1 dX7_compare_91 ?_
          refine pm_bipush (v := 95) dX7_compare_94 (by decide) ?_
          refine pm_iload_n dX7_compare_96 rfl ?_
          refine pm_imul dX7_compare_97 ?_
          refine pm_iload_n dX7_compare_98 rfl ?_
          refine pm_iadd dX7_compare_99 ?_
          refine mm_iaload (n := _) hm (by decide) ix95 (by show _ < 279775; omega) dX7_compare_100 ?_
          rw [hu.2.2 (k + 1) (by omega)]
          refine pm_istore dX7_compare_101 (by decide) ?_
          dsimp only [List.set]
          refine pm_aload_n dX7_compare_103 rfl ?_
          refine pm_g_Model_told hm.1 pm_f_X7_8 (hm.2.1 0 (by decide)).1 dX7_compare_104 ?_
          refine pm_bipush (v := 95) dX7_compare_107 (by decide) ?_
          refine pm_iload_n dX7_compare_109 rfl ?_
          refine pm_imul dX7_compare_110 ?_
          refine pm_iload_n dX7_compare_111 rfl ?_
          refine pm_iadd dX7_compare_112 ?_
          refine mm_iaload (n := _) hm (by decide) ix95 (by show _ < 279775; omega) dX7_compare_113 ?_
          rw [hw.2.2 (k + 1) (by omega)]
          refine pm_istore dX7_compare_114 (by decide) ?_
          dsimp only [List.set]
          refine pm_iload dX7_compare_116 rfl ?_
          refine pm_iload dX7_compare_118 rfl ?_
          refine pm_icmp_eq (tgt := 136) dX7_compare_120 (by decide) (fun h120 => ?_) (fun h120 => ?_)
          · skip
            rw [if_pos h120] at hR
            refine pm_iinc dX7_compare_136 rfl rfl (by decide) ?_
            dsimp only [List.set]
            rw [show nI (k + 1) + Int32.ofInt 1 = nI (k + 2) from nI_1 _]
            refine pm_goto (tgt := 2) dX7_compare_139 (by decide) ?_
            first
            | exact ih f (by omega) (k + 1) (o + 2) _ _ _ _ c1b.2 c2b.2 (by rw [List.length_drop]; omega) (by omega) hR
            | exact ih f (by omega) (k + 2) o _ _ _ _ c1b.2.2 c2b.2.2 (by rw [List.length_drop]; omega) (by omega) hR
          · skip
            rw [if_neg h120] at hR
            refine pm_iload dX7_compare_123 rfl ?_
            refine pm_iload dX7_compare_125 rfl ?_
            refine pm_icmp_ge (tgt := 134) dX7_compare_127 (by decide) (fun h127 => ?_) (fun h127 => ?_)
            · skip
              rw [if_pos h127] at hR
              refine pm_iconst (v := 1) dX7_compare_134 (by decide) ?_
              subst hQ9
              refine pm_iret dX7_compare_135 ?_
              exact ⟨hR, rfl⟩
            · skip
              rw [if_neg h127] at hR
              refine pm_iconst (v := (-1)) dX7_compare_130 (by decide) ?_
              refine pm_goto (tgt := 135) dX7_compare_131 (by decide) ?_
              subst hQ9
              refine pm_iret dX7_compare_135 ?_
              exact ⟨hR, rfl⟩
        · skip
          have c1b := c1.resolve_right (fun z => z.1 h84)
          have c2b := c2.resolve_right (fun z => z.1 (h42.symm.trans h84))
          rw [if_pos (by rw [h84]; rfl)] at hR
          refine pm_goto (tgt := 2) dX7_compare_87 (by decide) ?_
          first
          | exact ih f (by omega) (k + 1) (o + 2) _ _ _ _ c1b.2 c2b.2 (by rw [List.length_drop]; omega) (by omega) hR
          | exact ih f (by omega) (k + 2) o _ _ _ _ c1b.2.2 c2b.2.2 (by rw [List.length_drop]; omega) (by omega) hR
      · skip
        rw [if_neg (fun z => h42 (kd_inj t1 t2 z))] at hR
        refine pm_iload dX7_compare_45 rfl ?_
        refine pm_iconst (v := (-1)) dX7_compare_47 (by decide) ?_
        refine pm_icmp_ne (tgt := 55) dX7_compare_48 (by decide) (fun h48 => ?_) (fun h48 => ?_)
        · skip
          have kx : pm_kd (u.getD k 0) = u.getD k 0 := if_neg h48
          refine pm_iload dX7_compare_55 rfl ?_
          refine pm_iload dX7_compare_57 rfl ?_
          refine pm_iconst (v := (-1)) dX7_compare_59 (by decide) ?_
          refine pm_icmp_ne (tgt := 67) dX7_compare_60 (by decide) (fun h60 => ?_) (fun h60 => ?_)
          · skip
            have ky : pm_kd (w.getD k 0) = w.getD k 0 := if_neg h60
            refine pm_iload dX7_compare_67 rfl ?_
            rw [kx, ky] at hR
            refine pm_icmp_ge (tgt := 76) dX7_compare_69 (by decide) (fun h69 => ?_) (fun h69 => ?_)
            · skip
              rw [if_pos h69] at hR
              refine pm_iconst (v := 1) dX7_compare_76 (by decide) ?_
              subst hQ9
              refine pm_iret dX7_compare_77 ?_
              exact ⟨hR, rfl⟩
            · skip
              rw [if_neg h69] at hR
              refine pm_iconst (v := (-1)) dX7_compare_72 (by decide) ?_
              refine pm_goto (tgt := 77) dX7_compare_73 (by decide) ?_
              subst hQ9
              refine pm_iret dX7_compare_77 ?_
              exact ⟨hR, rfl⟩
          · skip
            have ky : pm_kd (w.getD k 0) = 3 := if_pos h60
            refine pm_iconst (v := 3) dX7_compare_63 (by decide) ?_
            refine pm_goto (tgt := 69) dX7_compare_64 (by decide) ?_
            rw [kx, ky] at hR
            refine pm_icmp_ge (tgt := 76) dX7_compare_69 (by decide) (fun h69 => ?_) (fun h69 => ?_)
            · skip
              rw [if_pos h69] at hR
              refine pm_iconst (v := 1) dX7_compare_76 (by decide) ?_
              subst hQ9
              refine pm_iret dX7_compare_77 ?_
              exact ⟨hR, rfl⟩
            · skip
              rw [if_neg h69] at hR
              refine pm_iconst (v := (-1)) dX7_compare_72 (by decide) ?_
              refine pm_goto (tgt := 77) dX7_compare_73 (by decide) ?_
              subst hQ9
              refine pm_iret dX7_compare_77 ?_
              exact ⟨hR, rfl⟩
        · skip
          have kx : pm_kd (u.getD k 0) = 3 := if_pos h48
          refine pm_iconst (v := 3) dX7_compare_51 (by decide) ?_
          refine pm_goto (tgt := 57) dX7_compare_52 (by decide) ?_
          refine pm_iload dX7_compare_57 rfl ?_
          refine pm_iconst (v := (-1)) dX7_compare_59 (by decide) ?_
          refine pm_icmp_ne (tgt := 67) dX7_compare_60 (by decide) (fun h60 => ?_) (fun h60 => ?_)
          · skip
            have ky : pm_kd (w.getD k 0) = w.getD k 0 := if_neg h60
            refine pm_iload dX7_compare_67 rfl ?_
            rw [kx, ky] at hR
            refine pm_icmp_ge (tgt := 76) dX7_compare_69 (by decide) (fun h69 => ?_) (fun h69 => ?_)
            · skip
              rw [if_pos h69] at hR
              refine pm_iconst (v := 1) dX7_compare_76 (by decide) ?_
              subst hQ9
              refine pm_iret dX7_compare_77 ?_
              exact ⟨hR, rfl⟩
            · skip
              rw [if_neg h69] at hR
              refine pm_iconst (v := (-1)) dX7_compare_72 (by decide) ?_
              refine pm_goto (tgt := 77) dX7_compare_73 (by decide) ?_
              subst hQ9
              refine pm_iret dX7_compare_77 ?_
              exact ⟨hR, rfl⟩
          · skip
            have ky : pm_kd (w.getD k 0) = 3 := if_pos h60
            refine pm_iconst (v := 3) dX7_compare_63 (by decide) ?_
            refine pm_goto (tgt := 69) dX7_compare_64 (by decide) ?_
            rw [kx, ky] at hR
            refine pm_icmp_ge (tgt := 76) dX7_compare_69 (by decide) (fun h69 => ?_) (fun h69 => ?_)
            · skip
              rw [if_pos h69] at hR
              refine pm_iconst (v := 1) dX7_compare_76 (by decide) ?_
              subst hQ9
              refine pm_iret dX7_compare_77 ?_
              exact ⟨hR, rfl⟩
            · skip
              rw [if_neg h69] at hR
              refine pm_iconst (v := (-1)) dX7_compare_72 (by decide) ?_
              refine pm_goto (tgt := 77) dX7_compare_73 (by decide) ?_
              subst hQ9
              refine pm_iret dX7_compare_77 ?_
              exact ⟨hR, rfl⟩
  refine pm_iconst (v := 0) dX7_compare_0 (by decide) ?_
  refine pm_istn dX7_compare_1 (i := 3) rfl (by decide) ?_
  dsimp only [List.set]
  exact loop 95 0 1 _ _ _ _ h1.1 h2.1 (by rw [List.length_drop]; omega) (by omega) rfl

