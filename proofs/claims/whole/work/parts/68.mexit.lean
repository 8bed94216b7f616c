/-! the reference: messages come, processes die, fail, get exits -/
section MRQ
variable {b : Nat} {Z : az} {M : pm_N}
def zCm (Z : az) (p : Nat) (w : List Int32) : az := zs_a (zs_b (zs_b (zs_t Z 2 p (az_b Z 9 p) w) 9 p (az_b Z 9 p + 1)) 12 p (max (az_b Z 12 p) (az_b Z 9 p + 1))) 7 (az_a Z 7 + 1)
theorem zComes_eq (Z : az) (p : Nat) (w : List Int32) : zComes Z p w = if az_b Z 1 p ≠ 2 ∧ az_b Z 9 p < 40 then (if az_b Z 1 p = 1 then zReady (zCm Z p w) p (az_b Z 3 p) else zCm Z p w) else Z := rfl
theorem mR.cms {M1 : pm_N} {p s : Nat} {w : List Int32} (hr : mR b Z M) (hI : zI s Z) (hp : p < az_a Z 0) (hlt : az_b Z 9 p < 40) (ht : mT M M1 (480 + 40 * p + az_b Z 9 p)) (hs : sl M1 (480 + 40 * p + az_b Z 9 p) w) : mR b (zCm Z p w) (mi (mx M1 11 p (nI (az_b Z 9 p + 1))) 39 (nI (az_a Z 7 + 1))) := by
  have h1 := hr.ms0 (w := w) hI.1 hI.b9 hp hlt ht
  have h2 := h1.up9 hp (by rw [z_b_t, z_t_t, if_pos ⟨rfl, rfl, rfl⟩]; exact hs)
  have h3 := h2.b12 (p := p) (v := max (az_b Z 12 p) (az_b Z 9 p + 1))
  exact h3.a0 (f := 39) (i := 7) (v := az_a Z 7 + 1) rfl (by decide)
theorem mR.rdyAt {p a : Nat} (hr : mR b Z M) (hp : p < az_a Z 0) : mR b (zReady Z p a) (mx (mi (mx (mx (mx M 7 p (nI a)) 22 p 0) 6 p 0) 26 (nI (az_a Z 3 + 1))) 23 p (nI (az_a Z 3 + 1))) := by
  have h1 := hr.b0 (s := 7) (i := 2) (v := a) hp rfl (by decide)
  have h2 := h1.rdy hp
  have h3 := h2.turn hp
  unfold zReady
  rw [zb_comm (i := 1) (j := 2) (by decide)]
  exact h3
theorem mR.fal2 {p a : Nat} (ha : az_a Z 1 = a) (hr : mR b Z M) : mR b (zs_a (zs_c Z 3 0 a p) 1 (a + 1)) (mi (mx M 32 (a - b) (nI p)) 33 (nI (a - b + 1))) := by
  subst ha
  exact hr.fal
theorem flt_keep {V : List (Nat × Nat × Nat)} {f : Nat × Nat × Nat → Bool} {j : Nat} {t : Nat × Nat × Nat} (h : V[j]? = some t) : V.drop j = t :: V.drop (j + 1) ∧ V.take (j + 1) = V.take j ++ [t] ∧ j < V.length := by
  obtain ⟨hj, e⟩ := List.getElem?_eq_some_iff.mp h
  refine ⟨by rw [List.drop_eq_getElem_cons hj, e], ?_, hj⟩
  rw [List.take_add_one, h]; rfl
end MRQ
set_option maxHeartbeats 4000000 in
set_option maxRecDepth 100000 in
theorem c_X7_comes (G : pm_G) (l : Launch) (bs : Nat) (A : Nat → Nat) (E : pm_S) (M : pm_N) (b : Nat) (Z : az) (s : Nat) (p t : Nat) (w : List Int32) (S : pm_S) (hm : pm_MX M S A E) (hr : mR b Z M) (hI : zI s Z) (hp : p < az_a Z 0) (ht : t < 2945) (hs : sl M t w) : pm_M G l bs yX7_comes cX7_comes 3 (some .boolean) 1 0 0 [.ref (A 50), .int (nI p), .int (nI t)] S (pm_qi (fun x S2 => x = (if az_b Z 1 p ≠ 2 ∧ az_b Z 9 p < 40 then 1 else 0) ∧ ∃ M2, pm_MX M2 S2 A E ∧ mR b (zComes Z p w) M2)) := by
  have hn := hI.1
  have hsm := hI.sm
  have h9b := hI.b9
  have g40 := h9b p hp
  refine pm_Mz (L := [.ref (A 50), .int (nI p), .int (nI t)]) (by decide +kernel) rfl (pm_en_1 rfl (pm_en_1 rfl (pm_en_1 rfl (pm_en_0 rfl)))) ?_
  generalize hQ9 : pm_xz (fun x S2 => x = (if az_b Z 1 p ≠ 2 ∧ az_b Z 9 p < 40 then 1 else 0) ∧ ∃ M2, pm_MX M2 S2 A E ∧ mR b (zComes Z p w) M2) = Q9
  refine pm_aload_n dX7_comes_0 rfl ?_
  refine pm_g_Model_state hm.1 pm_f_X7_29 (hm.2.1 6 (by decide)).1 dX7_comes_1 ?_
  refine pm_iload_n dX7_comes_4 rfl ?_
  refine mm_iaload (n := _) hm (by decide) rfl (by show _ < 60; omega) dX7_comes_5 ?_
  refine pm_iconst (v := 2) dX7_comes_6 (by decide) ?_
  rw [hr.B (i := 1) hp rfl]
  refine pm_icmp_eq (tgt := 21) dX7_comes_7 (by decide) (fun h7 => ?_) (fun h7 => ?_)
  · skip
    have g9 : ¬ (az_b Z 1 p ≠ 2 ∧ az_b Z 9 p < 40) := fun z => z.1 ((pm_e2 (hsm p hp 1 (by decide))).mp h7)
    refine pm_iconst (v := 0) dX7_comes_21 (by decide) ?_
    subst hQ9
    refine pm_zret dX7_comes_22 (by first | exact Or.inl rfl | exact Or.inr rfl | assumption) ?_
    exact ⟨(if_neg g9).symm, M, hm, by rw [zComes_eq, if_neg g9]; exact hr⟩
  · skip
    have g1 : az_b Z 1 p ≠ 2 := fun z => h7 ((pm_e2 (hsm p hp 1 (by decide))).mpr z)
    refine pm_aload_n dX7_comes_10 rfl ?_
    refine pm_g_Model_mail hm.1 pm_f_X7_45 (hm.2.1 11 (by decide)).1 dX7_comes_11 ?_
    refine pm_iload_n dX7_comes_14 rfl ?_
    refine mm_iaload (n := _) hm (by decide) rfl (by show _ < 60; omega) dX7_comes_15 ?_
    refine pm_bipush (v := 40) dX7_comes_16 (by decide) ?_
    rw [hr.B (i := 9) hp rfl]
    refine pm_icmp_ne (tgt := 23) dX7_comes_18 (by decide) (fun h18 => ?_) (fun h18 => ?_)
    · skip
      have q18 : ¬ az_b Z 9 p = 40 := fun z => h18 (by rw [z]; rfl)
      have g2 : az_b Z 9 p < 40 := by omega
      refine pm_aload_n dX7_comes_23 rfl ?_
      refine pm_sipush (v := 480) dX7_comes_24 (by decide) ?_
      refine pm_bipush (v := 40) dX7_comes_27 (by decide) ?_
      refine pm_iload_n dX7_comes_29 rfl ?_
      refine pm_imul dX7_comes_30 ?_
      refine pm_iadd dX7_comes_31 ?_
      refine pm_aload_n dX7_comes_32 rfl ?_
      refine pm_g_Model_mail hm.1 pm_f_X7_45 (hm.2.1 11 (by decide)).1 dX7_comes_33 ?_
      refine pm_iload_n dX7_comes_36 rfl ?_
      refine mm_iaload (n := _) hm (by decide) rfl (by show _ < 60; omega) dX7_comes_37 ?_
      refine pm_iadd dX7_comes_38 ?_
      refine pm_iload_n dX7_comes_39 rfl ?_
      rw [hr.B (i := 9) hp rfl, show (480 : Int32) + 40 * nI p + nI (az_b Z 9 p) = nI (480 + 40 * p + az_b Z 9 p) from by rw [show (480 : Int32) = nI 480 from rfl, show (40 : Int32) = nI 40 from rfl, pk_mul, nI_add, nI_add]]
      refine pm_vv (c_X7_copy G l bs A E M (480 + 40 * p + az_b Z 9 p) t w _ hm (by omega) ht hs) pm_y_X7_copy pm_v_X7_copy pm_m_X7_136 (c := 7) (r := (RX7, TX7, 41)) rfl rfl hm.1 dX7_comes_40 rfl rfl (by decide) (Nat.le_of_ble_eq_true rfl) (fun S40 h40 => ?_)
      obtain ⟨M40, hm40, mt40, sl40⟩ := h40
      have hc := hr.cms hI hp g2 mt40 sl40
      refine pm_aload_n dX7_comes_43 rfl ?_
      refine pm_g_Model_mail hm40.1 pm_f_X7_45 (hm40.2.1 11 (by decide)).1 dX7_comes_44 ?_
      refine pm_iload_n dX7_comes_47 rfl ?_
      refine pm_dup2 dX7_comes_48 ?_
      refine mm_iaload (n := _) hm40 (by decide) rfl (by show _ < 60; omega) dX7_comes_49 ?_
      refine pm_iconst (v := 1) dX7_comes_50 (by decide) ?_
      refine pm_iadd dX7_comes_51 ?_
      rw [mt40.o (by decide) (by decide), hr.B (i := 9) hp rfl, nI_1]
      refine mm_iastore (n := _) hm40 (by decide) rfl (by show _ < 60; omega) dX7_comes_52 (fun S52 hm52 => ?_)
      refine pm_aload_n dX7_comes_53 rfl ?_
      refine pm_dup dX7_comes_54 ?_
      refine pm_g_Model_came hm52.1 pm_f_X7_140 dX7_comes_55 ?_
      rw [hm52.f (g := 389) (f := 39) rfl]
      refine pm_iconst (v := 1) dX7_comes_58 (by decide) ?_
      refine pm_iadd dX7_comes_59 ?_
      rw [mx_2, mt40.2, hr.A (i := 7) rfl, nI_1]
      refine pm_p_Model_came hm52.1 pm_f_X7_140 dX7_comes_60 ?_
      refine mm_gen (hm52.si (g := 389) (f := 39) rfl) (fun S60 hm60 => ?_)
      generalize mi (mx M40 11 p (nI (az_b Z 9 p + 1))) 39 (nI (az_a Z 7 + 1)) = Mc at hm60 hc
      have hpc : p < az_a (zCm Z p w) 0 := hp
      have e1 : az_b (zCm Z p w) 1 p = az_b Z 1 p := by unfold zCm; rw [z_b_a, z_b_bne (by decide), z_b_bne (by decide), z_b_t]
      have e3 : az_b (zCm Z p w) 3 p = az_b Z 3 p := by unfold zCm; rw [z_b_a, z_b_bne (by decide), z_b_bne (by decide), z_b_t]
      refine pm_aload_n dX7_comes_63 rfl ?_
      refine pm_g_Model_state hm60.1 pm_f_X7_29 (hm60.2.1 6 (by decide)).1 dX7_comes_64 ?_
      refine pm_iload_n dX7_comes_67 rfl ?_
      refine mm_iaload (n := _) hm60 (by decide) rfl (by show _ < 60; omega) dX7_comes_68 ?_
      refine pm_iconst (v := 1) dX7_comes_69 (by decide) ?_
      rw [hc.B (i := 1) hpc rfl, e1]
      refine pm_icmp_ne (tgt := 97) dX7_comes_70 (by decide) (fun h70 => ?_) (fun h70 => ?_)
      · skip
        have g3 : ¬ az_b Z 1 p = 1 := fun z => h70 (by rw [z]; rfl)
        refine pm_iconst (v := 1) dX7_comes_97 (by decide) ?_
        subst hQ9
        refine pm_zret dX7_comes_98 (by first | exact Or.inl rfl | exact Or.inr rfl | assumption) ?_
        first
        | exact ⟨(if_pos ⟨g1, g2⟩).symm, _, hm60, by rw [zComes_eq, if_pos ⟨g1, g2⟩, if_neg g3]; exact hc⟩
        | exact ⟨(if_pos ⟨g1, g2⟩).symm, _, hm94, by rw [zComes_eq, if_pos ⟨g1, g2⟩, if_pos g3]; exact hc2⟩
      · skip
        have g3 : az_b Z 1 p = 1 := (nI_eq (a := az_b Z 1 p) (b := 1) (hsm p hp 1 (by decide)) (by decide)).mp h70
        refine pm_aload_n dX7_comes_73 rfl ?_
        refine pm_g_Model_place hm60.1 pm_f_X7_32 (hm60.2.1 7 (by decide)).1 dX7_comes_74 ?_
        refine pm_iload_n dX7_comes_77 rfl ?_
        refine pm_aload_n dX7_comes_78 rfl ?_
        refine pm_g_Model_onTo hm60.1 pm_f_X7_69 (hm60.2.1 19 (by decide)).1 dX7_comes_79 ?_
        refine pm_iload_n dX7_comes_82 rfl ?_
        refine mm_iaload (n := _) hm60 (by decide) rfl (by show _ < 60; omega) dX7_comes_83 ?_
        rw [((hc.2.2.2.2.1 p hpc).2 (e1.trans g3)).1, e3]
        refine mm_iastore (n := _) hm60 (by decide) rfl (by show _ < 60; omega) dX7_comes_84 (fun S84 hm84 => ?_)
        refine pm_aload_n dX7_comes_85 rfl ?_
        refine pm_g_Model_timed hm84.1 pm_f_X7_78 (hm84.2.1 22 (by decide)).1 dX7_comes_86 ?_
        refine pm_iload_n dX7_comes_89 rfl ?_
        refine pm_iconst (v := 0) dX7_comes_90 (by decide) ?_
        refine mm_bastore (n := _) hm84 (by decide) rfl (by show _ < 60; omega) (Or.inl rfl) dX7_comes_91 (fun S91 hm91 => ?_)
        refine pm_aload_n dX7_comes_92 rfl ?_
        refine pm_iload_n dX7_comes_93 rfl ?_
        refine pm_vv (c_X7_becomesReady G l bs A E _ p _ hm91 (by omega)) pm_y_X7_becomesReady pm_v_X7_becomesReady pm_m_X7_128 (c := 7) (r := (RX7, TX7, 41)) rfl rfl hm91.1 dX7_comes_94 rfl rfl (by decide) (Nat.le_of_ble_eq_true rfl) (fun S94 h94 => ?_)
        have hm94 := h94
        rw [mx_2, mx_2, hc.A (i := 3) rfl, nI_1] at hm94
        have hc2 := hc.rdyAt (a := az_b Z 3 p) hpc
        refine pm_iconst (v := 1) dX7_comes_97 (by decide) ?_
        subst hQ9
        refine pm_zret dX7_comes_98 (by first | exact Or.inl rfl | exact Or.inr rfl | assumption) ?_
        first
        | exact ⟨(if_pos ⟨g1, g2⟩).symm, _, hm60, by rw [zComes_eq, if_pos ⟨g1, g2⟩, if_neg g3]; exact hc⟩
        | exact ⟨(if_pos ⟨g1, g2⟩).symm, _, hm94, by rw [zComes_eq, if_pos ⟨g1, g2⟩, if_pos g3]; exact hc2⟩
    · skip
      have q18 : az_b Z 9 p = 40 := (nI_eq (a := az_b Z 9 p) (b := 40) (by omega) (by omega)).mp h18
      have g9 : ¬ (az_b Z 1 p ≠ 2 ∧ az_b Z 9 p < 40) := fun z => by omega
      refine pm_iconst (v := 0) dX7_comes_21 (by decide) ?_
      subst hQ9
      refine pm_zret dX7_comes_22 (by first | exact Or.inl rfl | exact Or.inr rfl | assumption) ?_
      exact ⟨(if_neg g9).symm, M, hm, by rw [zComes_eq, if_neg g9]; exact hr⟩

set_option maxHeartbeats 4000000 in
set_option maxRecDepth 100000 in
theorem c_X7_dies (G : pm_G) (l : Launch) (bs : Nat) (A : Nat → Nat) (E : pm_S) (M : pm_N) (b : Nat) (Z : az) (s : Nat) (p t : Nat) (w : List Int32) (S : pm_S) (hm : pm_MX M S A E) (hr : mR b Z M) (hI : zI s Z) (hp : p < az_a Z 0) (h0 : az_b Z 1 p ≠ 2) (ht : t < 2945) (hs : sl M t w) : pm_M G l bs yX7_dies cX7_dies 4 none 1 0 0 [.ref (A 50), .int (nI p), .int (nI t)] S (pm_qv (fun S2 => ∃ M2, pm_MX M2 S2 A E ∧ mR b (zDies Z p w) M2)) := by
  have hn := hI.1
  have hsm := hI.sm
  have h9b := hI.b9
  have hd60 := hI.dl hp h0
  have hwl : (az_w Z).length ≤ 200 := hI.2.2.2.2.2.2.2.2.1.1
  have hwn := hI.wn
  refine pm_Mv (L := [.ref (A 50), .int (nI p), .int (nI t), pm_u]) false (by decide +kernel) (fun h => by cases h) rfl (pm_en_1 rfl (pm_en_1 rfl (pm_en_1 rfl (pm_en_0 rfl)))) ?_
  generalize hQ9 : pm_xv (fun S2 => ∃ M2, pm_MX M2 S2 A E ∧ mR b (zDies Z p w) M2) = Q9
  have loop : ∀ (M7 M8 : pm_N), mR b (zs_b (zs_b (zs_b (zs_b (zs_e (zs_b (zs_t Z 1 p 0 w) 1 p 2) 0 p none) 9 p 0) 10 p 0) 7 p 0) 8 p 0) M8 → ∀ (j : Nat) (M9 : pm_N) (S9 : pm_S), j ≤ (az_w Z).length → pm_MX M9 S9 A E → mW M8 M9 → mV ((az_w Z).take j ++ ((az_w Z).drop j).filter (fun x : Nat × Nat × Nat => decide (x.2.1 ≠ p))) M9 → pm_W G l bs yX7_dies.cls cX7_dies 4 false 1 0 0 Q9 66 [.ref (A 50), .int (nI p), .int (nI t), .int (nI j - 1)] [] S9 := by
    intro M7 M8 h8 j
    induction j using Nat.strongRecOn with
    | ind j ih =>
    intro M9 S9 hjl hm9 hw9 hv9
    refine pm_iload_n dX7_dies_66 rfl ?_
    refine pm_if_lt (tgt := 91) dX7_dies_67 (by decide) (fun h67 => ?_) (fun h67 => ?_)
    · skip
      have j0 : j = 0 := by rcases Nat.lt_or_ge 0 j with q | q; exact absurd h67 (by rw [show j = j - 1 + 1 from by omega, nI_pred]; exact nI_pos (by omega)); omega
      rw [j0, List.take_zero, List.nil_append, List.drop_zero] at hv9
      have hr9 := h8.wl hw9 hv9
      have hf9 : M9.2 33 = nI (az_a Z 1 - b) := by
        have := hr9.2.2.2.2.2.2.2.2.2.1.1
        rw [z_a_w, z_a_b, z_a_b, z_a_b, z_a_b, z_a_e, z_a_b, z_a_t] at this
        exact this
      refine pm_aload_n dX7_dies_91 rfl ?_
      refine pm_g_Model_fallen hm9.1 pm_f_X7_96 (hm9.2.1 32 (by decide)).1 dX7_dies_92 ?_
      refine pm_aload_n dX7_dies_95 rfl ?_
      refine pm_g_Model_fallenCount hm9.1 pm_f_X7_157 dX7_dies_96 ?_
      rw [hm9.f (g := 383) (f := 33) rfl]
      refine pm_iload_n dX7_dies_99 rfl ?_
      refine mm_iastore (n := az_a Z 1 - b) hm9 (by decide) hf9 (by show _ < 60; omega) dX7_dies_100 (fun S100 hm100 => ?_)
      skip
      refine pm_aload_n dX7_dies_101 rfl ?_
      refine pm_dup dX7_dies_102 ?_
      refine pm_g_Model_fallenCount hm100.1 pm_f_X7_157 dX7_dies_103 ?_
      rw [hm100.f (g := 383) (f := 33) rfl]
      refine pm_iconst (v := 1) dX7_dies_106 (by decide) ?_
      refine pm_iadd dX7_dies_107 ?_
      rw [mx_2, hf9, nI_1]
      refine pm_p_Model_fallenCount hm100.1 pm_f_X7_157 dX7_dies_108 ?_
      refine mm_gen (hm100.si (g := 383) (f := 33) rfl) (fun S108 hm108 => ?_)
      subst hQ9
      refine pm_vret dX7_dies_111 ?_
      exact ⟨_, hm108, mR.dies (mR.fal2 (a := az_a Z 1) (by rw [z_a_w, z_a_b, z_a_b, z_a_b, z_a_b, z_a_e, z_a_b, z_a_t]) hr9)⟩
    · skip
      obtain ⟨j, rfl⟩ : ∃ j2, j = j2 + 1 := ⟨j - 1, by rcases Nat.lt_or_ge 0 j with q | q; omega; exact absurd (by rw [show j = 0 from by omega]; decide) h67⟩
      rw [nI_pred]
      obtain ⟨x, hx⟩ : ∃ x, (az_w Z)[j]? = some x := ⟨_, List.getElem?_eq_getElem (by omega)⟩
      obtain ⟨d1, d2, d3⟩ := flt_keep (f := (fun x : Nat × Nat × Nat => decide (x.2.1 ≠ p))) hx
      have hx9 : ((az_w Z).take (j + 1) ++ ((az_w Z).drop (j + 1)).filter (fun x : Nat × Nat × Nat => decide (x.2.1 ≠ p)))[j]? = some x := by rw [d2, List.append_assoc, List.getElem?_append_right (by rw [List.length_take]; omega), List.length_take, show j - min j (az_w Z).length = 0 from by omega]; rfl
      refine pm_aload_n dX7_dies_70 rfl ?_
      refine pm_g_Model_watchers hm9.1 pm_f_X7_87 (hm9.2.1 27 (by decide)).1 dX7_dies_71 ?_
      refine pm_iload_n dX7_dies_74 rfl ?_
      refine mm_iaload (n := _) hm9 (by decide) rfl (by show _ < 200; omega) dX7_dies_75 ?_
      refine pm_iload_n dX7_dies_76 rfl ?_
      rw [(hv9.2 j x hx9).1]
      refine pm_icmp_ne (tgt := 85) dX7_dies_77 (by decide) (fun h77 => ?_) (fun h77 => ?_)
      · skip
        have g1 : x.2.1 ≠ p := fun z => h77 (by rw [z])
        have hv10 : mV ((az_w Z).take j ++ ((az_w Z).drop j).filter (fun x : Nat × Nat × Nat => decide (x.2.1 ≠ p))) M9 := by rw [d1, List.filter_cons_of_pos (by simpa using g1)]; rw [d2, List.append_assoc] at hv9; exact hv9
        have hw10 := hw9
        have hm10 := hm9
        refine pm_iinc dX7_dies_85 rfl rfl (by decide) ?_
        dsimp only [List.set]
        refine pm_goto (tgt := 66) dX7_dies_88 (by decide) ?_
        rw [show nI j + Int32.ofInt (-1) = nI j - 1 from by rw [Int32.sub_eq_add_neg]; rfl]
        exact ih j (by omega) _ _ (by omega) hm10 hw10 hv10
      · skip
        have g1 : x.2.1 = p := (nI_eq (by have := hwn x (List.mem_of_getElem? hx); omega) (by omega)).mp h77
        refine pm_aload_n dX7_dies_80 rfl ?_
        refine pm_iload_n dX7_dies_81 rfl ?_
        refine pm_vv (c_X7_dropWatch G l bs A E M9 _ j _ hm9 hv9 (by rw [List.length_append, List.length_take]; omega) (by rw [List.length_append, List.length_take]; have := List.length_filter_le (fun x : Nat × Nat × Nat => decide (x.2.1 ≠ p)) ((az_w Z).drop (j + 1)); rw [List.length_drop] at this; omega)) pm_y_X7_dropWatch pm_v_X7_dropWatch pm_m_X7_154 (c := 7) (r := (RX7, TX7, 41)) rfl rfl hm9.1 dX7_dies_82 rfl rfl (by decide) (Nat.le_of_ble_eq_true rfl) (fun S82 h82 => ?_)
        obtain ⟨M10, hm10, hv10, hw10b⟩ := h82
        have hw10 := hw9.tr hw10b
        rw [show ((az_w Z).take (j + 1) ++ ((az_w Z).drop (j + 1)).filter (fun x : Nat × Nat × Nat => decide (x.2.1 ≠ p))).eraseIdx j = (az_w Z).take j ++ ((az_w Z).drop j).filter (fun x : Nat × Nat × Nat => decide (x.2.1 ≠ p)) from by rw [d1, List.filter_cons_of_neg (by simpa using g1), d2, List.append_assoc, List.eraseIdx_append_of_length_le (by rw [List.length_take]; omega), List.length_take, show j - min j (az_w Z).length = 0 from by omega]; rfl] at hv10
        refine pm_iinc dX7_dies_85 rfl rfl (by decide) ?_
        dsimp only [List.set]
        refine pm_goto (tgt := 66) dX7_dies_88 (by decide) ?_
        rw [show nI j + Int32.ofInt (-1) = nI j - 1 from by rw [Int32.sub_eq_add_neg]; rfl]
        exact ih j (by omega) _ _ (by omega) hm10 hw10 hv10
  refine pm_aload_n dX7_dies_0 rfl ?_
  refine pm_sipush (v := 2880) dX7_dies_1 (by decide) ?_
  refine pm_iload_n dX7_dies_4 rfl ?_
  refine pm_iadd dX7_dies_5 ?_
  refine pm_iload_n dX7_dies_6 rfl ?_
  rw [show (2880 : Int32) + nI p = nI (2880 + p) from nI_add _ _]
  refine pm_vv (c_X7_copy G l bs A E M (2880 + p) t w _ hm (by omega) ht hs) pm_y_X7_copy pm_v_X7_copy pm_m_X7_136 (c := 7) (r := (RX7, TX7, 41)) rfl rfl hm.1 dX7_dies_7 rfl rfl (by decide) (Nat.le_of_ble_eq_true rfl) (fun S7 h7 => ?_)
  obtain ⟨M7, hm7, mt7, sl7⟩ := h7
  have h8 := hr.die8 hI hp mt7 sl7
  refine pm_aload_n dX7_dies_10 rfl ?_
  refine pm_g_Model_state hm7.1 pm_f_X7_29 (hm7.2.1 6 (by decide)).1 dX7_dies_11 ?_
  refine pm_iload_n dX7_dies_14 rfl ?_
  refine pm_iconst (v := 2) dX7_dies_15 (by decide) ?_
  refine mm_iastore (n := _) hm7 (by decide) rfl (by show _ < 60; omega) dX7_dies_16 (fun S16 hm16 => ?_)
  refine pm_aload_n dX7_dies_17 rfl ?_
  refine pm_g_Model_name hm16.1 pm_f_X7_38 (hm16.2.1 9 (by decide)).1 dX7_dies_18 ?_
  refine pm_iload_n dX7_dies_21 rfl ?_
  refine pm_iconst (v := (-1)) dX7_dies_22 (by decide) ?_
  refine mm_iastore (n := _) hm16 (by decide) rfl (by show _ < 60; omega) dX7_dies_23 (fun S23 hm23 => ?_)
  refine pm_aload_n dX7_dies_24 rfl ?_
  refine pm_g_Model_mail hm23.1 pm_f_X7_45 (hm23.2.1 11 (by decide)).1 dX7_dies_25 ?_
  refine pm_iload_n dX7_dies_28 rfl ?_
  refine pm_iconst (v := 0) dX7_dies_29 (by decide) ?_
  refine mm_iastore (n := _) hm23 (by decide) rfl (by show _ < 60; omega) dX7_dies_30 (fun S30 hm30 => ?_)
  refine pm_aload_n dX7_dies_31 rfl ?_
  refine pm_g_Model_pointer hm30.1 pm_f_X7_48 (hm30.2.1 12 (by decide)).1 dX7_dies_32 ?_
  refine pm_iload_n dX7_dies_35 rfl ?_
  refine pm_iconst (v := 0) dX7_dies_36 (by decide) ?_
  refine mm_iastore (n := _) hm30 (by decide) rfl (by show _ < 60; omega) dX7_dies_37 (fun S37 hm37 => ?_)
  refine pm_aload_n dX7_dies_38 rfl ?_
  refine pm_g_Model_backCount hm37.1 pm_f_X7_54 (hm37.2.1 14 (by decide)).1 dX7_dies_39 ?_
  refine pm_iload_n dX7_dies_42 rfl ?_
  refine pm_iconst (v := 0) dX7_dies_43 (by decide) ?_
  refine mm_iastore (n := _) hm37 (by decide) rfl (by show _ < 60; omega) dX7_dies_44 (fun S44 hm44 => ?_)
  refine pm_aload_n dX7_dies_45 rfl ?_
  refine pm_g_Model_catchCount hm44.1 pm_f_X7_63 (hm44.2.1 17 (by decide)).1 dX7_dies_46 ?_
  refine pm_iload_n dX7_dies_49 rfl ?_
  refine pm_iconst (v := 0) dX7_dies_50 (by decide) ?_
  refine mm_iastore (n := _) hm44 (by decide) rfl (by show _ < 60; omega) dX7_dies_51 (fun S51 hm51 => ?_)
  refine pm_aload_n dX7_dies_52 rfl ?_
  refine pm_g_Model_timed hm51.1 pm_f_X7_78 (hm51.2.1 22 (by decide)).1 dX7_dies_53 ?_
  refine pm_iload_n dX7_dies_56 rfl ?_
  refine pm_iconst (v := 0) dX7_dies_57 (by decide) ?_
  refine mm_bastore (n := _) hm51 (by decide) rfl (by show _ < 60; omega) (Or.inl rfl) dX7_dies_58 (fun S58 hm58 => ?_)
  generalize mx (mx (mx (mx (mx (mx (mx M7 6 p 2) 9 p (-1)) 11 p 0) 12 p 0) 14 p 0) 17 p 0) 22 p 0 = M8 at hm58 h8
  have hv8 : mV (az_w Z) M8 := h8.2.2.2.2.2.2.2.1
  refine pm_aload_n dX7_dies_59 rfl ?_
  refine pm_g_Model_watchCount hm58.1 pm_f_X7_151 dX7_dies_60 ?_
  rw [hm58.f (g := 380) (f := 30) rfl]
  refine pm_iconst (v := 1) dX7_dies_63 (by decide) ?_
  refine pm_isub dX7_dies_64 ?_
  rw [hv8.1]
  refine pm_istn dX7_dies_65 (i := 3) rfl (by decide) ?_
  dsimp only [List.set]
  exact loop M7 M8 h8 (az_w Z).length M8 _ (Nat.le_refl _) hm58 mW.rf (by rw [List.take_length, List.drop_length, List.filter_nil, List.append_nil]; exact hv8)

section MRT
variable {b : Nat} {Z : az} {M : pm_N}
theorem sl_x {s k t : Nat} {v : Int32} {w : List Int32} (hs : 2 ≤ s) (h : sl M t w) : sl (mx M s k v) t w := h.cg (fun _ => mx_o (by omega)) (fun _ => mx_o (by omega))
theorem mR.min7 {p v : Nat} (h : mR b Z M) (hp : p < az_a Z 0) : mR b (zs_b Z 7 p (min (az_b Z 7 p) v)) (mx M 14 p (nI (min (az_b Z 7 p) v))) := h.dn (s := 14) (i := 7) hp rfl (by decide) (Nat.min_le_left _ _)
theorem zb_id {i p : Nat} (v : Nat) (h : v = az_b Z i p) : zs_b Z i p v = Z := by
  refine az_ext rfl (funext fun a => funext fun c => ?_) rfl rfl rfl rfl rfl rfl
  rw [z_b_b]
  by_cases e : a = i ∧ c = p
  · rw [if_pos e, e.1, e.2, h]
  · rw [if_neg e]
end MRT
set_option maxHeartbeats 4000000 in
set_option maxRecDepth 100000 in
theorem c_X7_failsOf (G : pm_G) (l : Launch) (bs : Nat) (A : Nat → Nat) (E : pm_S) (M : pm_N) (b : Nat) (Z : az) (s : Nat) (p t : Nat) (w : List Int32) (S : pm_S) (hm : pm_MX M S A E) (hr : mR b Z M) (hI : zI s Z) (hp : p < az_a Z 0) (h0 : az_b Z 1 p ≠ 2) (ht : t < 2945) (hs : sl M t w) : pm_M G l bs yX7_failsOf cX7_failsOf 4 none 2 0 0 [.ref (A 50), .int (nI p), .int (nI t)] S (pm_qv (fun S2 => ∃ M2, pm_MX M2 S2 A E ∧ mR b (zFails Z p w) M2)) := by
  have hn := hI.1
  have hsm := hI.sm
  have h9b := hI.b9
  have b8 : az_b Z 8 p ≤ 8 := hI.b hp 8
  refine pm_Mv (L := [.ref (A 50), .int (nI p), .int (nI t), pm_u]) false (by decide +kernel) (fun h => by cases h) rfl (pm_en_1 rfl (pm_en_1 rfl (pm_en_1 rfl (pm_en_0 rfl)))) ?_
  generalize hQ9 : pm_xv (fun S2 => ∃ M2, pm_MX M2 S2 A E ∧ mR b (zFails Z p w) M2) = Q9
  refine pm_aload_n dX7_failsOf_0 rfl ?_
  refine pm_g_Model_catchCount hm.1 pm_f_X7_63 (hm.2.1 17 (by decide)).1 dX7_failsOf_1 ?_
  refine pm_iload_n dX7_failsOf_4 rfl ?_
  refine mm_iaload (n := _) hm (by decide) rfl (by show _ < 60; omega) dX7_failsOf_5 ?_
  rw [hr.B (i := 8) hp rfl]
  refine pm_if_ne (tgt := 16) dX7_failsOf_6 (by decide) (fun h6 => ?_) (fun h6 => ?_)
  · skip
    have g1 : ¬ az_b Z 8 p = 0 := fun z => h6 ((pm_e0 (by omega)).mpr z)
    have hkc := (hr.2.2.2.2.2.1 p hp).2 (az_b Z 8 p - 1) (by omega)
    have hcc := (hI.2.2.2.1 p hp).2 (az_b Z 8 p - 1) (by omega)
    refine pm_aload_n dX7_failsOf_16 rfl ?_
    refine pm_g_Model_catchCount hm.1 pm_f_X7_63 (hm.2.1 17 (by decide)).1 dX7_failsOf_17 ?_
    refine pm_iload_n dX7_failsOf_20 rfl ?_
    refine pm_dup2 dX7_failsOf_21 ?_
    refine mm_iaload (n := _) hm (by decide) rfl (by show _ < 60; omega) dX7_failsOf_22 ?_
    refine pm_iconst (v := 1) dX7_failsOf_23 (by decide) ?_
    refine pm_isub dX7_failsOf_24 ?_
    rw [hr.B (i := 8) hp rfl, show (1 : Int32) = nI 1 from rfl, pk_sub (by omega)]
    refine mm_iastore (n := _) hm (by decide) rfl (by show _ < 60; omega) dX7_failsOf_25 (fun S25 hm25 => ?_)
    have hr25 := hr.dn (s := 17) (i := 8) (v := az_b Z 8 p - 1) hp rfl (by decide) (by omega)
    refine pm_bipush (v := 8) dX7_failsOf_26 (by decide) ?_
    refine pm_iload_n dX7_failsOf_28 rfl ?_
    refine pm_imul dX7_failsOf_29 ?_
    refine pm_aload_n dX7_failsOf_30 rfl ?_
    refine pm_g_Model_catchCount hm25.1 pm_f_X7_63 (hm25.2.1 17 (by decide)).1 dX7_failsOf_31 ?_
    refine pm_iload_n dX7_failsOf_34 rfl ?_
    refine mm_iaload (n := _) hm25 (by decide) rfl (by show _ < 60; omega) dX7_failsOf_35 ?_
    refine pm_iadd dX7_failsOf_36 ?_
    rw [mx_s, show (8 : Int32) * nI p + nI (az_b Z 8 p - 1) = nI (8 * p + (az_b Z 8 p - 1)) from by rw [show (8 : Int32) = nI 8 from rfl, pk_mul, nI_add]]
    refine pm_istn dX7_failsOf_37 (i := 3) rfl (by decide) ?_
    dsimp only [List.set]
    refine pm_aload_n dX7_failsOf_38 rfl ?_
    refine pm_g_Model_place hm25.1 pm_f_X7_32 (hm25.2.1 7 (by decide)).1 dX7_failsOf_39 ?_
    refine pm_iload_n dX7_failsOf_42 rfl ?_
    refine pm_aload_n dX7_failsOf_43 rfl ?_
    refine pm_g_Model_catches hm25.1 pm_f_X7_57 (hm25.2.1 15 (by decide)).1 dX7_failsOf_44 ?_
    refine pm_iload_n dX7_failsOf_47 rfl ?_
    refine mm_iaload (n := _) hm25 (by decide) rfl (by show _ < 480; omega) dX7_failsOf_48 ?_
    rw [mx_o (by decide), hkc.1]
    refine mm_iastore (n := _) hm25 (by decide) rfl (by show _ < 60; omega) dX7_failsOf_49 (fun S49 hm49 => ?_)
    have hr49 := hr25.b0 (s := 7) (i := 2) (v := az_c Z 1 p (az_b Z 8 p - 1)) hp rfl (by decide)
    have e7 : az_b (zs_b (zs_b Z 8 p (az_b Z 8 p - 1)) 2 p (az_c Z 1 p (az_b Z 8 p - 1))) 7 p = az_b Z 7 p := by rw [z_b_bne (by decide), z_b_bne (by decide)]
    have b7 : az_b Z 7 p ≤ 16 := hI.b hp 7
    have h9c : ∀ q v, q < az_a (zs_b (zs_b (zs_b Z 8 p (az_b Z 8 p - 1)) 2 p (az_c Z 1 p (az_b Z 8 p - 1))) 7 p v) 0 → az_b (zs_b (zs_b (zs_b Z 8 p (az_b Z 8 p - 1)) 2 p (az_c Z 1 p (az_b Z 8 p - 1))) 7 p v) 9 q ≤ 40 := fun q v hq => by rw [z_b_bne (by decide), z_b_bne (by decide), z_b_bne (by decide)]; exact h9b q hq
    refine pm_aload_n dX7_failsOf_50 rfl ?_
    refine pm_g_Model_backCount hm49.1 pm_f_X7_54 (hm49.2.1 14 (by decide)).1 dX7_failsOf_51 ?_
    refine pm_iload_n dX7_failsOf_54 rfl ?_
    refine mm_iaload (n := _) hm49 (by decide) rfl (by show _ < 60; omega) dX7_failsOf_55 ?_
    refine pm_aload_n dX7_failsOf_56 rfl ?_
    refine pm_g_Model_caught hm49.1 pm_f_X7_60 (hm49.2.1 16 (by decide)).1 dX7_failsOf_57 ?_
    refine pm_iload_n dX7_failsOf_60 rfl ?_
    refine mm_iaload (n := _) hm49 (by decide) rfl (by show _ < 480; omega) dX7_failsOf_61 ?_
    rw [mx_o (by decide), mx_o (by decide), mx_o (by decide), mx_o (by decide), hr.B (i := 7) hp rfl, hkc.2]
    refine pm_icmp_le (tgt := 77) dX7_failsOf_62 (by decide) (fun h62 => ?_) (fun h62 => ?_)
    · skip
      have g2 : az_b Z 7 p ≤ az_c Z 2 p (az_b Z 8 p - 1) := (pm_nle (a := az_b Z 7 p) (by omega) (by omega)).mp h62
      have hr76 : mR b (zs_b (zs_b (zs_b Z 8 p (az_b Z 8 p - 1)) 2 p (az_c Z 1 p (az_b Z 8 p - 1))) 7 p (min (az_b Z 7 p) (az_c Z 2 p (az_b Z 8 p - 1)))) (mx (mx M 17 p (nI (az_b Z 8 p - 1))) 7 p (nI (az_c Z 1 p (az_b Z 8 p - 1)))) := by rw [zb_id _ (by rw [e7, Nat.min_eq_left g2])]; exact hr49
      have hm76 := hm49
      have SLA := sl_x (s := 7) (k := p) (v := nI (az_c Z 1 p (az_b Z 8 p - 1))) (by decide) (sl_x (s := 17) (k := p) (v := nI (az_b Z 8 p - 1)) (by decide) hs)
      refine pm_aload_n dX7_failsOf_77 rfl ?_
      refine pm_bipush (v := 8) dX7_failsOf_78 (by decide) ?_
      refine pm_iload_n dX7_failsOf_80 rfl ?_
      refine pm_imul dX7_failsOf_81 ?_
      refine pm_iload_n dX7_failsOf_82 rfl ?_
      rw [show (8 : Int32) * nI p = nI (8 * p + 0) from by rw [show (8 : Int32) = nI 8 from rfl, pk_mul]; rfl]
      refine pm_vv (c_X7_copy G l bs A E _ (8 * p + 0) t w _ hm49 (by omega) ht (by first | exact SLA | exact sl_x (by decide) sl62)) pm_y_X7_copy pm_v_X7_copy pm_m_X7_136 (c := 7) (r := (RX7, TX7, 41)) rfl rfl hm49.1 dX7_failsOf_83 rfl rfl (by decide) (Nat.le_of_ble_eq_true rfl) (fun S83 h83 => ?_)
      obtain ⟨M83, hm83, mt83, sl83⟩ := h83
      subst hQ9
      refine pm_vret dX7_failsOf_86 ?_
      first
      | exact ⟨M83, hm83, by unfold zFails; rw [if_neg g1]; exact hr76.reg (j := 0) hn (fun q hq => h9c q _ hq) hp (by decide) mt83 sl83⟩
      | exact ⟨M83, hm83, by unfold zFails; rw [if_neg g1]; dsimp only; rw [Nat.min_eq_right g2]; exact hr76.reg (j := 0) hn (fun q hq => h9c q _ hq) hp (by decide) mt83 sl83⟩
    · skip
      have g2 : az_c Z 2 p (az_b Z 8 p - 1) ≤ az_b Z 7 p := by rcases Nat.lt_or_ge (az_c Z 2 p (az_b Z 8 p - 1)) (az_b Z 7 p) with q | q; omega; exact absurd ((pm_nle (a := az_b Z 7 p) (by omega) (by omega)).mpr q) h62
      have sl62 : sl (mx (mx M 17 p (nI (az_b Z 8 p - 1))) 7 p (nI (az_c Z 1 p (az_b Z 8 p - 1)))) t w := sl_x (by decide) (sl_x (by decide) hs)
      refine pm_aload_n dX7_failsOf_65 rfl ?_
      refine pm_g_Model_backCount hm49.1 pm_f_X7_54 (hm49.2.1 14 (by decide)).1 dX7_failsOf_66 ?_
      refine pm_iload_n dX7_failsOf_69 rfl ?_
      refine pm_aload_n dX7_failsOf_70 rfl ?_
      refine pm_g_Model_caught hm49.1 pm_f_X7_60 (hm49.2.1 16 (by decide)).1 dX7_failsOf_71 ?_
      refine pm_iload_n dX7_failsOf_74 rfl ?_
      refine mm_iaload (n := _) hm49 (by decide) rfl (by show _ < 480; omega) dX7_failsOf_75 ?_
      rw [mx_o (by decide), mx_o (by decide), hkc.2]
      refine mm_iastore (n := _) hm49 (by decide) rfl (by show _ < 60; omega) dX7_failsOf_76 (fun S76 hm76 => ?_)
      have hr76 := hr49.min7 (v := az_c Z 2 p (az_b Z 8 p - 1)) hp
      rw [e7, Nat.min_eq_right g2] at hr76
      refine pm_aload_n dX7_failsOf_77 rfl ?_
      refine pm_bipush (v := 8) dX7_failsOf_78 (by decide) ?_
      refine pm_iload_n dX7_failsOf_80 rfl ?_
      refine pm_imul dX7_failsOf_81 ?_
      refine pm_iload_n dX7_failsOf_82 rfl ?_
      rw [show (8 : Int32) * nI p = nI (8 * p + 0) from by rw [show (8 : Int32) = nI 8 from rfl, pk_mul]; rfl]
      refine pm_vv (c_X7_copy G l bs A E _ (8 * p + 0) t w _ hm76 (by omega) ht (by first | exact SLA | exact sl_x (by decide) sl62)) pm_y_X7_copy pm_v_X7_copy pm_m_X7_136 (c := 7) (r := (RX7, TX7, 41)) rfl rfl hm76.1 dX7_failsOf_83 rfl rfl (by decide) (Nat.le_of_ble_eq_true rfl) (fun S83 h83 => ?_)
      obtain ⟨M83, hm83, mt83, sl83⟩ := h83
      subst hQ9
      refine pm_vret dX7_failsOf_86 ?_
      first
      | exact ⟨M83, hm83, by unfold zFails; rw [if_neg g1]; exact hr76.reg (j := 0) hn (fun q hq => h9c q _ hq) hp (by decide) mt83 sl83⟩
      | exact ⟨M83, hm83, by unfold zFails; rw [if_neg g1]; dsimp only; rw [Nat.min_eq_right g2]; exact hr76.reg (j := 0) hn (fun q hq => h9c q _ hq) hp (by decide) mt83 sl83⟩
  · skip
    have g1 : az_b Z 8 p = 0 := (pm_e0 (by omega)).mp h6
    refine pm_aload_n dX7_failsOf_9 rfl ?_
    refine pm_iload_n dX7_failsOf_10 rfl ?_
    refine pm_iload_n dX7_failsOf_11 rfl ?_
    refine pm_vv (c_X7_dies G l bs A E M b Z s p t w _ hm hr hI hp h0 ht hs) pm_y_X7_dies pm_v_X7_dies pm_m_X7_187 (c := 7) (r := (RX7, TX7, 41)) rfl rfl hm.1 dX7_failsOf_12 rfl rfl (by decide) (Nat.le_of_ble_eq_true rfl) (fun S12 h12 => ?_)
    obtain ⟨M12, hm12, hr12⟩ := h12
    subst hQ9
    refine pm_vret dX7_failsOf_15 ?_
    exact ⟨M12, hm12, by unfold zFails; rw [if_pos g1]; exact hr12⟩

set_option maxHeartbeats 4000000 in
set_option maxRecDepth 100000 in
theorem c_X7_failsWith (G : pm_G) (l : Launch) (bs : Nat) (A : Nat → Nat) (E : pm_S) (M : pm_N) (b : Nat) (Z : az) (s : Nat) (p : Nat) (x y : Int32) (S : pm_S) (hm : pm_MX M S A E) (hr : mR b Z M) (hI : zI s Z) (hp : p < az_a Z 0) (h0 : az_b Z 1 p ≠ 2) : pm_M G l bs yX7_failsWith cX7_failsWith 4 none 3 0 0 [.ref (A 50), .int (nI p), .int x, .int y] S (pm_qv (fun S2 => ∃ M2, pm_MX M2 S2 A E ∧ mR b (zFails Z p [x, y]) M2)) := by
  have hn := hI.1
  have hsm := hI.sm
  have h9b := hI.b9
  refine pm_Mv (L := [.ref (A 50), .int (nI p), .int x, .int y]) false (by decide +kernel) (fun h => by cases h) rfl (pm_en_1 rfl (pm_en_1 rfl (pm_en_1 rfl (pm_en_1 rfl (pm_en_0 rfl))))) ?_
  generalize hQ9 : pm_xv (fun S2 => ∃ M2, pm_MX M2 S2 A E ∧ mR b (zFails Z p [x, y]) M2) = Q9
  refine pm_aload_n dX7_failsWith_0 rfl ?_
  refine pm_sipush (v := 2940) dX7_failsWith_1 (by decide) ?_
  refine pm_iload_n dX7_failsWith_4 rfl ?_
  refine pm_iload_n dX7_failsWith_5 rfl ?_
  refine pm_vv (c_X7_set G l bs A E M 2940 x y _ hm (by decide)) pm_y_X7_set pm_v_X7_set pm_m_X7_124 (c := 7) (r := (RX7, TX7, 41)) rfl rfl hm.1 dX7_failsWith_6 rfl rfl (by decide) (Nat.le_of_ble_eq_true rfl) (fun S6 h6 => ?_)
  obtain ⟨M6, hm6, mt6, sl6⟩ := h6
  have hr6 := hr.T hn h9b mt6 (by decide)
  refine pm_aload_n dX7_failsWith_9 rfl ?_
  refine pm_iload_n dX7_failsWith_10 rfl ?_
  refine pm_sipush (v := 2940) dX7_failsWith_11 (by decide) ?_
  refine pm_vv (c_X7_failsOf G l bs A E M6 b Z s p 2940 [x, y] _ hm6 hr6 hI hp h0 (by decide) sl6) pm_y_X7_failsOf pm_v_X7_failsOf pm_m_X7_196 (c := 7) (r := (RX7, TX7, 41)) rfl rfl hm6.1 dX7_failsWith_14 rfl rfl (by decide) (Nat.le_of_ble_eq_true rfl) (fun S14 h14 => ?_)
  obtain ⟨M14, hm14, hr14⟩ := h14
  subst hQ9
  refine pm_vret dX7_failsWith_17 ?_
  exact ⟨M14, hm14, hr14⟩

set_option maxHeartbeats 4000000 in
set_option maxRecDepth 100000 in
theorem c_X7_bad (G : pm_G) (l : Launch) (bs : Nat) (A : Nat → Nat) (E : pm_S) (M : pm_N) (b : Nat) (Z : az) (s : Nat) (p : Nat) (x : Int32) (S : pm_S) (hm : pm_MX M S A E) (hr : mR b Z M) (hI : zI s Z) (hp : p < az_a Z 0) (h0 : az_b Z 1 p ≠ 2) (hx : x = 0 ∨ x = 1) : pm_M G l bs yX7_bad cX7_bad 3 (some .boolean) 4 0 0 [.ref (A 50), .int (nI p), .int x] S (pm_qi (fun y S2 => y = x ∧ ((x = 0 ∧ S2 = S) ∨ (x ≠ 0 ∧ ∃ M2, pm_MX M2 S2 A E ∧ mR b (zBad Z p) M2)))) := by
  refine pm_Mz (L := [.ref (A 50), .int (nI p), .int x]) (by decide +kernel) rfl (pm_en_1 rfl (pm_en_1 rfl (pm_en_1 rfl (pm_en_0 rfl)))) ?_
  generalize hQ9 : pm_xz (fun y S2 => y = x ∧ ((x = 0 ∧ S2 = S) ∨ (x ≠ 0 ∧ ∃ M2, pm_MX M2 S2 A E ∧ mR b (zBad Z p) M2))) = Q9
  refine pm_iload_n dX7_bad_0 rfl ?_
  refine pm_if_eq (tgt := 11) dX7_bad_1 (by decide) (fun h1 => ?_) (fun h1 => ?_)
  · skip
    skip
    refine pm_iload_n dX7_bad_11 rfl ?_
    subst hQ9
    refine pm_zret dX7_bad_12 hx ?_
    first
    | exact ⟨rfl, Or.inl ⟨h1, rfl⟩⟩
    | exact ⟨rfl, Or.inr ⟨h1, M8, hm8, hr8⟩⟩
  · skip
    skip
    refine pm_aload_n dX7_bad_4 rfl ?_
    refine pm_iload_n dX7_bad_5 rfl ?_
    refine pm_iconst (v := 1) dX7_bad_6 (by decide) ?_
    refine pm_iconst (v := 4) dX7_bad_7 (by decide) ?_
    refine pm_vv (c_X7_failsWith G l bs A E M b Z s p 1 4 _ hm hr hI hp h0) pm_y_X7_failsWith pm_v_X7_failsWith pm_m_X7_193 (c := 7) (r := (RX7, TX7, 41)) rfl rfl hm.1 dX7_bad_8 rfl rfl (by decide) (Nat.le_of_ble_eq_true rfl) (fun S8 h8 => ?_)
    obtain ⟨M8, hm8, hr8⟩ := h8
    refine pm_iload_n dX7_bad_11 rfl ?_
    subst hQ9
    refine pm_zret dX7_bad_12 hx ?_
    first
    | exact ⟨rfl, Or.inl ⟨h1, rfl⟩⟩
    | exact ⟨rfl, Or.inr ⟨h1, M8, hm8, hr8⟩⟩

set_option maxHeartbeats 4000000 in
set_option maxRecDepth 100000 in
theorem c_X7_endsBy (G : pm_G) (l : Launch) (bs : Nat) (A : Nat → Nat) (E : pm_S) (M : pm_N) (b : Nat) (Z : az) (s : Nat) (p : Nat) (y : Int32) (S : pm_S) (hm : pm_MX M S A E) (hr : mR b Z M) (hI : zI s Z) (hp : p < az_a Z 0) (h0 : az_b Z 1 p ≠ 2) : pm_M G l bs yX7_endsBy cX7_endsBy 3 none 2 0 0 [.ref (A 50), .int (nI p), .int y] S (pm_qv (fun S2 => ∃ M2, pm_MX M2 S2 A E ∧ mR b (zDies Z p [1, y]) M2)) := by
  have hn := hI.1
  have hsm := hI.sm
  have h9b := hI.b9
  refine pm_Mv (L := [.ref (A 50), .int (nI p), .int y]) false (by decide +kernel) (fun h => by cases h) rfl (pm_en_1 rfl (pm_en_1 rfl (pm_en_1 rfl (pm_en_0 rfl)))) ?_
  generalize hQ9 : pm_xv (fun S2 => ∃ M2, pm_MX M2 S2 A E ∧ mR b (zDies Z p [1, y]) M2) = Q9
  refine pm_aload_n dX7_endsBy_0 rfl ?_
  refine pm_sipush (v := 2940) dX7_endsBy_1 (by decide) ?_
  refine pm_iconst (v := 1) dX7_endsBy_4 (by decide) ?_
  refine pm_iload_n dX7_endsBy_5 rfl ?_
  refine pm_vv (c_X7_set G l bs A E M 2940 1 y _ hm (by decide)) pm_y_X7_set pm_v_X7_set pm_m_X7_124 (c := 7) (r := (RX7, TX7, 41)) rfl rfl hm.1 dX7_endsBy_6 rfl rfl (by decide) (Nat.le_of_ble_eq_true rfl) (fun S6 h6 => ?_)
  obtain ⟨M6, hm6, mt6, sl6⟩ := h6
  have hr6 := hr.T hn h9b mt6 (by decide)
  refine pm_aload_n dX7_endsBy_9 rfl ?_
  refine pm_iload_n dX7_endsBy_10 rfl ?_
  refine pm_sipush (v := 2940) dX7_endsBy_11 (by decide) ?_
  refine pm_vv (c_X7_dies G l bs A E M6 b Z s p 2940 [1, y] _ hm6 hr6 hI hp h0 (by decide) sl6) pm_y_X7_dies pm_v_X7_dies pm_m_X7_187 (c := 7) (r := (RX7, TX7, 41)) rfl rfl hm6.1 dX7_endsBy_14 rfl rfl (by decide) (Nat.le_of_ble_eq_true rfl) (fun S14 h14 => ?_)
  obtain ⟨M14, hm14, hr14⟩ := h14
  subst hQ9
  refine pm_vret dX7_endsBy_17 ?_
  exact ⟨M14, hm14, hr14⟩

