/-! the reference: coming, dying -/
section MRO
variable {b : Nat} {Z : az} {M : pm_N}
/-- the watches of the reference -/
def mV (V : List (Nat × Nat × Nat)) (M : pm_N) : Prop := M.2 30 = nI V.length ∧ ∀ i t, V[i]? = some t → M.1 27 i = nI t.2.1 ∧ M.1 28 i = nI t.2.2 ∧ M.1 29 i = nI t.1
def mW (M M2 : pm_N) : Prop := (∀ s k, s ≠ 27 → s ≠ 28 → s ≠ 29 → M2.1 s k = M.1 s k) ∧ ∀ f, f ≠ 30 → M2.2 f = M.2 f
theorem mW.rf : mW M M := ⟨fun _ _ _ _ _ => rfl, fun _ _ => rfl⟩
theorem mW.tr {M1 M2 : pm_N} (h1 : mW M M1) (h2 : mW M1 M2) : mW M M2 := ⟨fun s k a b c => (h2.1 s k a b c).trans (h1.1 s k a b c), fun f a => (h2.2 f a).trans (h1.2 f a)⟩
theorem mR.wl (h : mR b Z M) {M2 : pm_N} {V : List (Nat × Nat × Nat)} (e : mW M M2) (hv : mV V M2) : mR b (zs_w Z V) M2 := by
  obtain ⟨g1, g2, g3, g4, g5, g6, g7, g8, g9, g10, g11, g12⟩ := h
  refine ⟨?_, ?_, ?_, ?_, ?_, ?_, ?_, ?_, ?_, ?_, ?_, ?_⟩
  · exact fun q hq s i hs => by have := tmB_s hs; rw [e.1 s q (by omega) (by omega) (by omega)]; exact g1 q hq s i hs
  · exact fun f i hf => by have := tmA_f hf; rw [e.2 f (by omega)]; exact g2 f i hf
  · exact fun q hq => by rw [e.1 23 q (by decide) (by decide) (by decide)]; exact g3 q hq
  · exact fun q hq => by rw [e.1 9 q (by decide) (by decide) (by decide)]; exact g4 q hq
  · exact fun q hq => by rw [e.1 22 q (by decide) (by decide) (by decide), e.1 19 q (by decide) (by decide) (by decide), e.1 21 q (by decide) (by decide) (by decide), e.1 20 q (by decide) (by decide) (by decide)]; exact g5 q hq
  · exact fun q hq => rK_cg (g6 q hq) (fun i => e.1 13 i (by decide) (by decide) (by decide)) (fun i => e.1 15 i (by decide) (by decide) (by decide)) (fun i => e.1 16 i (by decide) (by decide) (by decide)) rfl rfl rfl
  · exact fun q r hq hr => by rw [e.1 24 _ (by decide) (by decide) (by decide)]; exact g7 q r hq hr
  · exact hv
  · exact ⟨fun k hk => by rw [e.1 2 k (by decide) (by decide) (by decide), e.1 3 k (by decide) (by decide) (by decide), e.1 4 k (by decide) (by decide) (by decide), e.1 5 k (by decide) (by decide) (by decide)]; exact g9.1 k hk, fun i hi hi2 => by rw [e.1 34 i (by decide) (by decide) (by decide)]; exact g9.2 i hi hi2⟩
  · exact ⟨by rw [e.2 33 (by decide)]; exact g10.1, g10.2.1, fun i hi => by rw [e.1 32 i (by decide) (by decide) (by decide)]; exact g10.2.2 i hi⟩
  · exact fun q hq => ⟨fun j hj => ((g11 q hq).1 j hj).cg (fun k => e.1 0 k (by decide) (by decide) (by decide)) (fun k => e.1 1 k (by decide) (by decide) (by decide)), fun k hk => ((g11 q hq).2.1 k hk).cg (fun k => e.1 0 k (by decide) (by decide) (by decide)) (fun k => e.1 1 k (by decide) (by decide) (by decide)), fun hd => ((g11 q hq).2.2 hd).cg (fun k => e.1 0 k (by decide) (by decide) (by decide)) (fun k => e.1 1 k (by decide) (by decide) (by decide))⟩
  · exact fun q hq hq2 s hs => by rw [e.1 s q (by omega) (by omega) (by omega)]; exact g12 q hq hq2 s hs
theorem zI.b9 {s : Nat} (h : zI s Z) : ∀ p, p < az_a Z 0 → az_b Z 9 p ≤ 40 := fun p hp => h.b hp 9
/-- what a death writes, but for the watches and the list -/
theorem mR.die8 {M1 : pm_N} {p s : Nat} {w : List Int32} (h : mR b Z M) (hI : zI s Z) (hp : p < az_a Z 0) (ht : mT M M1 (2880 + p)) (hs : sl M1 (2880 + p) w) : mR b (zs_b (zs_b (zs_b (zs_b (zs_e (zs_b (zs_t Z 1 p 0 w) 1 p 2) 0 p none) 9 p 0) 10 p 0) 7 p 0) 8 p 0) (mx (mx (mx (mx (mx (mx (mx M1 6 p 2) 9 p (-1)) 11 p 0) 12 p 0) 14 p 0) 17 p 0) 22 p 0) := by
  have h1 := h.rsn hI.1 hI.b9 hp ht hs
  have h2 := h1.ded hp (by rw [z_t_t, if_pos ⟨rfl, rfl, rfl⟩]; exact hs)
  have h3 := h2.nm (r := none) hp
  have h4 := h3.dn (s := 11) (i := 9) (v := 0) hp rfl (by decide) (Nat.zero_le _)
  have h5 := h4.b0 (s := 12) (i := 10) (v := 0) hp rfl (by decide)
  have h6 := h5.dn (s := 14) (i := 7) (v := 0) hp rfl (by decide) (Nat.zero_le _)
  have h7 := h6.dn (s := 17) (i := 8) (v := 0) hp rfl (by decide) (Nat.zero_le _)
  rw [mx_comm (s := 17) (s' := 22) (Or.inl (by decide)), mx_comm (s := 14) (s' := 22) (Or.inl (by decide)), mx_comm (s := 12) (s' := 22) (Or.inl (by decide)), mx_comm (s := 11) (s' := 22) (Or.inl (by decide)), mx_comm (s := 9) (s' := 22) (Or.inl (by decide))]
  exact h7
theorem ze_b (Z : az) (i p : Nat) (r : Option Nat) (j q v : Nat) : zs_b (zs_e Z i p r) j q v = zs_e (zs_b Z j q v) i p r := az_ext rfl rfl rfl rfl rfl rfl rfl rfl
theorem ze_t (Z : az) (i p : Nat) (r : Option Nat) (j q k : Nat) (w : List Int32) : zs_t (zs_e Z i p r) j q k w = zs_e (zs_t Z j q k w) i p r := az_ext rfl rfl rfl rfl rfl rfl rfl rfl
theorem ze_w (Z : az) (i p : Nat) (r : Option Nat) (V : List (Nat × Nat × Nat)) : zs_w (zs_e Z i p r) V = zs_e (zs_w Z V) i p r := az_ext rfl rfl rfl rfl rfl rfl rfl rfl
theorem ze_c (Z : az) (i p : Nat) (r : Option Nat) (j q k v : Nat) : zs_c (zs_e Z i p r) j q k v = zs_e (zs_c Z j q k v) i p r := az_ext rfl rfl rfl rfl rfl rfl rfl rfl
theorem ze_a (Z : az) (i p : Nat) (r : Option Nat) (j v : Nat) : zs_a (zs_e Z i p r) j v = zs_e (zs_a Z j v) i p r := az_ext rfl rfl rfl rfl rfl rfl rfl rfl
theorem ze_comm (Z : az) (p n : Nat) (r t : Option Nat) : zs_e (zs_e Z 2 n r) 0 p t = zs_e (zs_e Z 0 p t) 2 n r := by
  refine az_ext rfl rfl rfl (funext fun i => funext fun k => ?_) rfl rfl rfl rfl
  rw [z_e_e, z_e_e, z_e_e, z_e_e]
  by_cases z : i = 0 ∧ k = p
  · rw [if_pos z, if_neg (fun y => by omega), if_pos z]
  · rw [if_neg z, if_neg z]
theorem ze_id {Z : az} {p : Nat} (h : az_e Z 0 p = none) : zs_e Z 0 p none = Z := by
  refine az_ext rfl rfl rfl (funext fun i => funext fun k => ?_) rfl rfl rfl rfl
  rw [z_e_e]
  by_cases z : i = 0 ∧ k = p
  · rw [if_pos z, z.1, z.2, h]
  · rw [if_neg z]
theorem mR.dies {p : Nat} {w : List Int32} (h : mR b (zs_a (zs_c (zs_w (zs_b (zs_b (zs_b (zs_b (zs_e (zs_b (zs_t Z 1 p 0 w) 1 p 2) 0 p none) 9 p 0) 10 p 0) 7 p 0) 8 p 0) ((az_w Z).filter (fun t => decide (t.2.1 ≠ p)))) 3 0 (az_a Z 1) p) 1 (az_a Z 1 + 1)) M) : mR b (zDies Z p w) M := by
  simp only [ze_b, ze_t, ze_w, ze_c, ze_a] at h
  unfold zDies
  cases q : az_e Z 0 p with
  | none =>
    dsimp only
    rw [ze_id (by rw [z_e_a, z_e_c, z_e_w, z_e_b, z_e_b, z_e_b, z_e_b, z_e_b, z_e_t]; exact q)] at h
    exact h
  | some n =>
    dsimp only
    simp only [ze_b, ze_t, ze_w, ze_c, ze_a]
    rw [ze_comm]
    exact h.e2
end MRO
set_option maxHeartbeats 4000000 in
set_option maxRecDepth 100000 in
theorem c_X7_becomesReady (G : pm_G) (l : Launch) (bs : Nat) (A : Nat → Nat) (E : pm_S) (M : pm_N) (p : Nat) (S : pm_S) (hm : pm_MX M S A E) (hp : p < 60) : pm_M G l bs yX7_becomesReady cX7_becomesReady 2 none 0 0 0 [.ref (A 50), .int (nI p)] S (pm_qv (fun S2 => pm_MX (mx (mi (mx M 6 p 0) 26 (M.2 26 + 1)) 23 p (M.2 26 + 1)) S2 A E)) := by
  refine pm_Mv (L := [.ref (A 50), .int (nI p)]) false (by decide +kernel) (fun h => by cases h) rfl (pm_en_1 rfl (pm_en_1 rfl (pm_en_0 rfl))) ?_
  generalize hQ9 : pm_xv (fun S2 => pm_MX (mx (mi (mx M 6 p 0) 26 (M.2 26 + 1)) 23 p (M.2 26 + 1)) S2 A E) = Q9
  refine pm_aload_n dX7_becomesReady_0 rfl ?_
  refine pm_g_Model_state hm.1 pm_f_X7_29 (hm.2.1 6 (by decide)).1 dX7_becomesReady_1 ?_
  refine pm_iload_n dX7_becomesReady_4 rfl ?_
  refine pm_iconst (v := 0) dX7_becomesReady_5 (by decide) ?_
  refine mm_iastore (n := _) hm (by decide) rfl (by show _ < 60; omega) dX7_becomesReady_6 (fun S6 hm6 => ?_)
  refine pm_aload_n dX7_becomesReady_7 rfl ?_
  refine pm_dup dX7_becomesReady_8 ?_
  refine pm_g_Model_readies hm6.1 pm_f_X7_118 dX7_becomesReady_9 ?_
  rw [hm6.f (g := 376) (f := 26) rfl]
  refine pm_iconst (v := 1) dX7_becomesReady_12 (by decide) ?_
  refine pm_iadd dX7_becomesReady_13 ?_
  refine pm_p_Model_readies hm6.1 pm_f_X7_118 dX7_becomesReady_14 ?_
  refine mm_gen (hm6.si (g := 376) (f := 26) rfl) (fun S14 hm14 => ?_)
  refine pm_aload_n dX7_becomesReady_17 rfl ?_
  refine pm_g_Model_since hm14.1 pm_f_X7_81 (hm14.2.1 23 (by decide)).1 dX7_becomesReady_18 ?_
  refine pm_iload_n dX7_becomesReady_21 rfl ?_
  refine pm_aload_n dX7_becomesReady_22 rfl ?_
  refine pm_g_Model_readies hm14.1 pm_f_X7_118 dX7_becomesReady_23 ?_
  rw [hm14.f (g := 376) (f := 26) rfl]
  refine mm_iastore (n := _) hm14 (by decide) rfl (by show _ < 60; omega) dX7_becomesReady_26 (fun S26 hm26 => ?_)
  subst hQ9
  refine pm_vret dX7_becomesReady_27 ?_
  exact hm26

set_option maxHeartbeats 4000000 in
set_option maxRecDepth 100000 in
theorem c_X7_link (G : pm_G) (l : Launch) (bs : Nat) (A : Nat → Nat) (E : pm_S) (M : pm_N) (p q : Nat) (x : Int32) (S : pm_S) (hm : pm_MX M S A E) (hp : p < 60) (hq : q < 60) (hx : x = 0 ∨ x = 1) : pm_M G l bs yX7_link cX7_link 4 none 0 0 0 [.ref (A 50), .int (nI p), .int (nI q), .int x] S (pm_qv (fun S2 => pm_MX (mx (mx M 24 (60 * p + q) x) 24 (60 * q + p) x) S2 A E)) := by
  refine pm_Mv (L := [.ref (A 50), .int (nI p), .int (nI q), .int x]) false (by decide +kernel) (fun h => by cases h) rfl (pm_en_1 rfl (pm_en_1 rfl (pm_en_1 rfl (pm_en_1 rfl (pm_en_0 rfl))))) ?_
  generalize hQ9 : pm_xv (fun S2 => pm_MX (mx (mx M 24 (60 * p + q) x) 24 (60 * q + p) x) S2 A E) = Q9
  refine pm_aload_n dX7_link_0 rfl ?_
  refine pm_g_Model_linked hm.1 pm_f_X7_84 (hm.2.1 24 (by decide)).1 dX7_link_1 ?_
  refine pm_bipush (v := 60) dX7_link_4 (by decide) ?_
  refine pm_iload_n dX7_link_6 rfl ?_
  refine pm_imul dX7_link_7 ?_
  refine pm_iload_n dX7_link_8 rfl ?_
  refine pm_iadd dX7_link_9 ?_
  refine pm_iload_n dX7_link_10 rfl ?_
  refine mm_bastore (n := _) hm (by decide) (by rw [show (60 : Int32) = nI 60 from rfl, pk_mul, nI_add]) (by show _ < 3600; omega) hx dX7_link_11 (fun S11 hm11 => ?_)
  refine pm_aload_n dX7_link_12 rfl ?_
  refine pm_g_Model_linked hm11.1 pm_f_X7_84 (hm11.2.1 24 (by decide)).1 dX7_link_13 ?_
  refine pm_bipush (v := 60) dX7_link_16 (by decide) ?_
  refine pm_iload_n dX7_link_18 rfl ?_
  refine pm_imul dX7_link_19 ?_
  refine pm_iload_n dX7_link_20 rfl ?_
  refine pm_iadd dX7_link_21 ?_
  refine pm_iload_n dX7_link_22 rfl ?_
  refine mm_bastore (n := _) hm11 (by decide) (by rw [show (60 : Int32) = nI 60 from rfl, pk_mul, nI_add]) (by show _ < 3600; omega) hx dX7_link_23 (fun S23 hm23 => ?_)
  subst hQ9
  refine pm_vret dX7_link_24 ?_
  exact hm23

set_option maxHeartbeats 4000000 in
set_option maxRecDepth 100000 in
theorem c_X7_waits (G : pm_G) (l : Launch) (bs : Nat) (A : Nat → Nat) (E : pm_S) (M : pm_N) (p : Nat) (a : Int32) (S : pm_S) (hm : pm_MX M S A E) (hp : p < 60) : pm_M G l bs yX7_waits cX7_waits 3 none 0 0 0 [.ref (A 50), .int (nI p), .int a] S (pm_qv (fun S2 => pm_MX (mx (mx M 6 p 1) 19 p a) S2 A E)) := by
  refine pm_Mv (L := [.ref (A 50), .int (nI p), .int a]) false (by decide +kernel) (fun h => by cases h) rfl (pm_en_1 rfl (pm_en_1 rfl (pm_en_1 rfl (pm_en_0 rfl)))) ?_
  generalize hQ9 : pm_xv (fun S2 => pm_MX (mx (mx M 6 p 1) 19 p a) S2 A E) = Q9
  refine pm_aload_n dX7_waits_0 rfl ?_
  refine pm_g_Model_state hm.1 pm_f_X7_29 (hm.2.1 6 (by decide)).1 dX7_waits_1 ?_
  refine pm_iload_n dX7_waits_4 rfl ?_
  refine pm_iconst (v := 1) dX7_waits_5 (by decide) ?_
  refine mm_iastore (n := _) hm (by decide) rfl (by show _ < 60; omega) dX7_waits_6 (fun S6 hm6 => ?_)
  refine pm_aload_n dX7_waits_7 rfl ?_
  refine pm_g_Model_onTo hm6.1 pm_f_X7_69 (hm6.2.1 19 (by decide)).1 dX7_waits_8 ?_
  refine pm_iload_n dX7_waits_11 rfl ?_
  refine pm_iload_n dX7_waits_12 rfl ?_
  refine mm_iastore (n := _) hm6 (by decide) rfl (by show _ < 60; omega) dX7_waits_13 (fun S13 hm13 => ?_)
  subst hQ9
  refine pm_vret dX7_waits_14 ?_
  exact hm13

set_option maxHeartbeats 4000000 in
set_option maxRecDepth 100000 in
theorem c_X7_registerOf (G : pm_G) (l : Launch) (bs : Nat) (p : Nat) (x : Int32) (S : pm_S)  : pm_M G l bs yX7_registerOf cX7_registerOf 2 (some .int) 1 0 0 [.int (nI p), .int x] S (pm_qi (fun y S2 => y = nI (8 * p + pm_mod x 8) ∧ S2 = S)) := by
  refine pm_Mi (L := [.int (nI p), .int x]) (by decide +kernel) rfl (pm_en_1 rfl (pm_en_1 rfl (pm_en_0 rfl))) ?_
  generalize hQ9 : pm_xi (fun y S2 => y = nI (8 * p + pm_mod x 8) ∧ S2 = S) = Q9
  refine pm_bipush (v := 8) dX7_registerOf_0 (by decide) ?_
  refine pm_iload_n dX7_registerOf_2 rfl ?_
  refine pm_imul dX7_registerOf_3 ?_
  refine pm_iload_n dX7_registerOf_4 rfl ?_
  refine pm_bipush (v := 8) dX7_registerOf_5 (by decide) ?_
  refine pm_ssi (c_X7_mod G l bs x 8 _ (by decide) (by decide)) pm_y_X7_mod pm_s_X7_mod pm_m_X7_199 dX7_registerOf_7 rfl rfl (by decide) (Nat.le_of_ble_eq_true rfl) (fun x7 S7 h7 => ?_)
  obtain ⟨rfl, rfl⟩ := h7
  refine pm_iadd dX7_registerOf_10 ?_
  subst hQ9
  refine pm_iret dX7_registerOf_11 ?_
  exact ⟨by rw [show (8 : Int32) = nI 8 from rfl, pk_mul, nI_add], rfl⟩

set_option maxHeartbeats 4000000 in
set_option maxRecDepth 100000 in
theorem c_X7_isProcess (G : pm_G) (l : Launch) (bs : Nat) (A : Nat → Nat) (E : pm_S) (M : pm_N) (x : Int32) (S : pm_S) (hm : pm_MX M S A E) : pm_M G l bs yX7_isProcess cX7_isProcess 2 (some .boolean) 1 0 0 [.ref (A 50), .int x] S (pm_qi (fun y S2 => y = (if 1 ≤ x ∧ x ≤ M.2 25 then 1 else 0) ∧ S2 = S)) := by
  refine pm_Mz (L := [.ref (A 50), .int x]) (by decide +kernel) rfl (pm_en_1 rfl (pm_en_1 rfl (pm_en_0 rfl))) ?_
  generalize hQ9 : pm_xz (fun y S2 => y = (if 1 ≤ x ∧ x ≤ M.2 25 then 1 else 0) ∧ S2 = S) = Q9
  refine pm_iload_n dX7_isProcess_0 rfl ?_
  refine pm_iconst (v := 1) dX7_isProcess_1 (by decide) ?_
  refine pm_aload_n dX7_isProcess_2 rfl ?_
  refine pm_g_Model_count hm.1 pm_f_X7_121 dX7_isProcess_3 ?_
  rw [hm.f (g := 375) (f := 25) rfl]
  refine pm_ssi (c_X7_within G l bs x 1 (M.2 25) _) pm_y_X7_within pm_s_X7_within pm_m_X7_110 dX7_isProcess_6 rfl rfl (by decide) (Nat.le_of_ble_eq_true rfl) (fun x6 S6 h6 => ?_)
  obtain ⟨rfl, rfl⟩ := h6
  subst hQ9
  refine pm_zret dX7_isProcess_9 (by split; exact Or.inr rfl; exact Or.inl rfl) ?_
  exact ⟨rfl, rfl⟩

theorem zNm_eq {r : Option Nat} {a : Nat} (h : ∀ c, r = some c → c < 100) (ha : a < 100) : zNm r = nI a ↔ r = some a := by
  cases r with
  | none => exact ⟨fun z => absurd z (fun q => by have := congrArg Int32.toInt q; rw [nI_toInt (by omega)] at this; have e : (zNm none).toInt = -1 := by decide
                                                  omega), fun z => by cases z⟩
  | some c =>
    have := h c rfl
    show nI c = nI a ↔ _
    rw [nI_eq (by omega) (by omega)]
    exact ⟨fun z => by rw [z], fun z => Option.some.inj z⟩
set_option maxHeartbeats 4000000 in
set_option maxRecDepth 100000 in
theorem c_X7_withName (G : pm_G) (l : Launch) (bs : Nat) (A : Nat → Nat) (E : pm_S) (M : pm_N) (b : Nat) (Z : az) (s : Nat) (a : Nat) (S : pm_S) (hm : pm_MX M S A E) (hr : mR b Z M) (hI : zI s Z) (ha : a < 100) : pm_M G l bs yX7_withName cX7_withName 3 (some .int) 0 0 0 [.ref (A 50), .int (nI a)] S (pm_qi (fun x S2 => x = zNm (az_e Z 2 a) ∧ S2 = S)) := by
  have hn := hI.1
  have hsm := hI.sm
  refine pm_Mi (L := [.ref (A 50), .int (nI a), pm_u]) (by decide +kernel) rfl (pm_en_1 rfl (pm_en_1 rfl (pm_en_0 rfl))) ?_
  generalize hQ9 : pm_xi (fun x S2 => x = zNm (az_e Z 2 a) ∧ S2 = S) = Q9
  have loop : ∀ (m k : Nat), k + m = az_a Z 0 → (∀ q, q < k → az_e Z 2 a ≠ some q) → pm_W G l bs yX7_withName.cls cX7_withName 3 false 0 0 0 Q9 2 [.ref (A 50), .int (nI a), .int (nI k)] [] S := by
    intro m
    induction m using Nat.strongRecOn with
    | ind m ih =>
    intro k hkm hk
    refine pm_iload_n dX7_withName_2 rfl ?_
    refine pm_aload_n dX7_withName_3 rfl ?_
    refine pm_g_Model_count hm.1 pm_f_X7_121 dX7_withName_4 ?_
    rw [hm.f (g := 375) (f := 25) rfl]
    rw [hr.A (i := 0) rfl]
    refine pm_icmp_ge (tgt := 38) dX7_withName_7 (by decide) (fun h7 => ?_) (fun h7 => ?_)
    · skip
      have h8 : k = az_a Z 0 := by have := (pm_nle (a := az_a Z 0) (b := k) (by omega) (by omega)).mp h7; omega
      refine pm_iconst (v := (-1)) dX7_withName_38 (by decide) ?_
      subst hQ9
      refine pm_iret dX7_withName_39 ?_
      refine ⟨?_, rfl⟩
      cases q : az_e Z 2 a with
      | none => rfl
      | some r => exact absurd q (hk r (by have := (hI.2.2.2.2.2.1.2 a r q).2.1; omega))
    · skip
      have h8 : k < az_a Z 0 := by rcases Nat.lt_or_ge k (az_a Z 0) with q | q; exact q; exact absurd ((pm_nle (a := az_a Z 0) (b := k) (by omega) (by omega)).mpr q) h7
      refine pm_aload_n dX7_withName_10 rfl ?_
      refine pm_g_Model_state hm.1 pm_f_X7_29 (hm.2.1 6 (by decide)).1 dX7_withName_11 ?_
      refine pm_iload_n dX7_withName_14 rfl ?_
      refine mm_iaload (n := _) hm (by decide) rfl (by show _ < 60; omega) dX7_withName_15 ?_
      refine pm_iconst (v := 2) dX7_withName_16 (by decide) ?_
      rw [hr.B (i := 1) h8 rfl]
      refine pm_icmp_eq (tgt := 32) dX7_withName_17 (by decide) (fun h17 => ?_) (fun h17 => ?_)
      · skip
        have g1 : az_e Z 2 a ≠ some k := fun z => (hI.2.2.2.2.2.1.2 a k z).2.2.1 ((pm_e2 (hsm k h8 1 (by decide))).mp h17)
        refine pm_iinc dX7_withName_32 rfl rfl (by decide) ?_
        dsimp only [List.set]
        refine pm_goto (tgt := 2) dX7_withName_35 (by decide) ?_
        rw [show nI k + Int32.ofInt 1 = nI (k + 1) from nI_1 _]
        exact ih (m - 1) (by omega) (k + 1) (by omega) (fun q hq => by
          by_cases e : q = k
          · rw [e]; exact g1
          · exact hk q (by omega))
      · skip
        skip
        refine pm_aload_n dX7_withName_20 rfl ?_
        refine pm_g_Model_name hm.1 pm_f_X7_38 (hm.2.1 9 (by decide)).1 dX7_withName_21 ?_
        refine pm_iload_n dX7_withName_24 rfl ?_
        refine mm_iaload (n := _) hm (by decide) rfl (by show _ < 60; omega) dX7_withName_25 ?_
        refine pm_iload_n dX7_withName_26 rfl ?_
        rw [hr.2.2.2.1 k h8]
        refine pm_icmp_ne (tgt := 32) dX7_withName_27 (by decide) (fun h27 => ?_) (fun h27 => ?_)
        · skip
          have g1 : az_e Z 2 a ≠ some k := fun z => h27 ((zNm_eq (hI.nm h8) ha).mpr (hI.2.2.2.2.2.1.2 a k z).2.2.2)
          refine pm_iinc dX7_withName_32 rfl rfl (by decide) ?_
          dsimp only [List.set]
          refine pm_goto (tgt := 2) dX7_withName_35 (by decide) ?_
          rw [show nI k + Int32.ofInt 1 = nI (k + 1) from nI_1 _]
          exact ih (m - 1) (by omega) (k + 1) (by omega) (fun q hq => by
            by_cases e : q = k
            · rw [e]; exact g1
            · exact hk q (by omega))
        · skip
          have g1 : az_e Z 2 a = some k := hI.2.2.2.2.2.1.1 k h8 a ((zNm_eq (hI.nm h8) ha).mp h27)
          refine pm_iload_n dX7_withName_30 rfl ?_
          subst hQ9
          refine pm_iret dX7_withName_31 ?_
          exact ⟨by rw [g1]; rfl, rfl⟩
  refine pm_iconst (v := 0) dX7_withName_0 (by decide) ?_
  refine pm_istn dX7_withName_1 (i := 2) rfl (by decide) ?_
  dsimp only [List.set]
  exact loop (az_a Z 0) 0 (by omega) (fun q hq => absurd hq (by omega))

set_option maxHeartbeats 4000000 in
set_option maxRecDepth 100000 in
theorem c_X7_dropWatch (G : pm_G) (l : Launch) (bs : Nat) (A : Nat → Nat) (E : pm_S) (M : pm_N) (V : List (Nat × Nat × Nat)) (i : Nat) (S : pm_S) (hm : pm_MX M S A E) (hv : mV V M) (hi : i < V.length) (hl : V.length ≤ 200) : pm_M G l bs yX7_dropWatch cX7_dropWatch 3 none 0 0 0 [.ref (A 50), .int (nI i)] S (pm_qv (fun S2 => ∃ M2, pm_MX M2 S2 A E ∧ mV (V.eraseIdx i) M2 ∧ mW M M2)) := by
  refine pm_Mv (L := [.ref (A 50), .int (nI i), pm_u]) false (by decide +kernel) (fun h => by cases h) rfl (pm_en_1 rfl (pm_en_1 rfl (pm_en_0 rfl))) ?_
  generalize hQ9 : pm_xv (fun S2 => ∃ M2, pm_MX M2 S2 A E ∧ mV (V.eraseIdx i) M2 ∧ mW M M2) = Q9
  have loop : ∀ (m k : Nat) (M9 : pm_N) (S9 : pm_S), k + m = V.length - 1 → i ≤ k → pm_MX M9 S9 A E → mW M M9 → M9.2 30 = nI (V.length - 1) → (∀ j t, j < i → V[j]? = some t → M9.1 27 j = nI t.2.1 ∧ M9.1 28 j = nI t.2.2 ∧ M9.1 29 j = nI t.1) → (∀ j t, k ≤ j → V[j]? = some t → M9.1 27 j = nI t.2.1 ∧ M9.1 28 j = nI t.2.2 ∧ M9.1 29 j = nI t.1) → (∀ j t, i ≤ j → j < k → V[j + 1]? = some t → M9.1 27 j = nI t.2.1 ∧ M9.1 28 j = nI t.2.2 ∧ M9.1 29 j = nI t.1) → pm_W G l bs yX7_dropWatch.cls cX7_dropWatch 3 false 0 0 0 Q9 12 [.ref (A 50), .int (nI i), .int (nI k)] [] S9 := by
    intro m
    induction m using Nat.strongRecOn with
    | ind m ih =>
    intro k M9 S9 hkm hik hm9 hw9 hc9 h19 h29 h39
    refine pm_iload_n dX7_dropWatch_12 rfl ?_
    refine pm_aload_n dX7_dropWatch_13 rfl ?_
    refine pm_g_Model_watchCount hm9.1 pm_f_X7_151 dX7_dropWatch_14 ?_
    rw [hm9.f (g := 380) (f := 30) rfl]
    rw [hc9]
    refine pm_icmp_ge (tgt := 68) dX7_dropWatch_17 (by decide) (fun h17 => ?_) (fun h17 => ?_)
    · skip
      have h8 : k = V.length - 1 := by have := (pm_nle (a := V.length - 1) (b := k) (by omega) (by omega)).mp h17; omega
      subst hQ9
      refine pm_vret dX7_dropWatch_68 ?_
      refine ⟨M9, hm9, ⟨by rw [hc9, List.length_eraseIdx, if_pos hi], fun j t ht => ?_⟩, hw9⟩
      rw [List.getElem?_eraseIdx] at ht
      split at ht
      · exact h19 j t (by omega) ht
      · have hj : j + 1 < V.length := (List.getElem?_eq_some_iff.mp ht).1
        exact h39 j t (by omega) (by omega) ht
    · skip
      have h8 : k < V.length - 1 := by rcases Nat.lt_or_ge k (V.length - 1) with q | q; exact q; exact absurd ((pm_nle (a := V.length - 1) (b := k) (by omega) (by omega)).mpr q) h17
      obtain ⟨t, ht⟩ : ∃ t, V[k + 1]? = some t := ⟨_, List.getElem?_eq_getElem (by omega)⟩
      have hu := h29 (k + 1) t (by omega) ht
      refine pm_aload_n dX7_dropWatch_20 rfl ?_
      refine pm_g_Model_watchers hm9.1 pm_f_X7_87 (hm9.2.1 27 (by decide)).1 dX7_dropWatch_21 ?_
      refine pm_iload_n dX7_dropWatch_24 rfl ?_
      refine pm_aload_n dX7_dropWatch_25 rfl ?_
      refine pm_g_Model_watchers hm9.1 pm_f_X7_87 (hm9.2.1 27 (by decide)).1 dX7_dropWatch_26 ?_
      refine pm_iload_n dX7_dropWatch_29 rfl ?_
      refine pm_iconst (v := 1) dX7_dropWatch_30 (by decide) ?_
      refine pm_iadd dX7_dropWatch_31 ?_
      refine mm_iaload (n := _) hm9 (by decide) (nI_1 _) (by show _ < 200; omega) dX7_dropWatch_32 ?_
      rw [hu.1]
      refine mm_iastore (n := _) hm9 (by decide) rfl (by show _ < 200; omega) dX7_dropWatch_33 (fun S33 hm33 => ?_)
      refine pm_aload_n dX7_dropWatch_34 rfl ?_
      refine pm_g_Model_watched hm33.1 pm_f_X7_90 (hm33.2.1 28 (by decide)).1 dX7_dropWatch_35 ?_
      refine pm_iload_n dX7_dropWatch_38 rfl ?_
      refine pm_aload_n dX7_dropWatch_39 rfl ?_
      refine pm_g_Model_watched hm33.1 pm_f_X7_90 (hm33.2.1 28 (by decide)).1 dX7_dropWatch_40 ?_
      refine pm_iload_n dX7_dropWatch_43 rfl ?_
      refine pm_iconst (v := 1) dX7_dropWatch_44 (by decide) ?_
      refine pm_iadd dX7_dropWatch_45 ?_
      refine mm_iaload (n := _) hm33 (by decide) (nI_1 _) (by show _ < 200; omega) dX7_dropWatch_46 ?_
      rw [mx_o (by decide), hu.2.1]
      refine mm_iastore (n := _) hm33 (by decide) rfl (by show _ < 200; omega) dX7_dropWatch_47 (fun S47 hm47 => ?_)
      refine pm_aload_n dX7_dropWatch_48 rfl ?_
      refine pm_g_Model_numbers hm47.1 pm_f_X7_93 (hm47.2.1 29 (by decide)).1 dX7_dropWatch_49 ?_
      refine pm_iload_n dX7_dropWatch_52 rfl ?_
      refine pm_aload_n dX7_dropWatch_53 rfl ?_
      refine pm_g_Model_numbers hm47.1 pm_f_X7_93 (hm47.2.1 29 (by decide)).1 dX7_dropWatch_54 ?_
      refine pm_iload_n dX7_dropWatch_57 rfl ?_
      refine pm_iconst (v := 1) dX7_dropWatch_58 (by decide) ?_
      refine pm_iadd dX7_dropWatch_59 ?_
      refine mm_iaload (n := _) hm47 (by decide) (nI_1 _) (by show _ < 200; omega) dX7_dropWatch_60 ?_
      rw [mx_o (by decide), mx_o (by decide), hu.2.2]
      refine mm_iastore (n := _) hm47 (by decide) rfl (by show _ < 200; omega) dX7_dropWatch_61 (fun S61 hm61 => ?_)
      refine pm_iinc dX7_dropWatch_62 rfl rfl (by decide) ?_
      dsimp only [List.set]
      refine pm_goto (tgt := 12) dX7_dropWatch_65 (by decide) ?_
      rw [show nI k + Int32.ofInt 1 = nI (k + 1) from nI_1 _]
      have rd : ∀ j, j ≠ k → (mx (mx (mx M9 27 k (nI t.2.1)) 28 k (nI t.2.2)) 29 k (nI t.1)).1 27 j = M9.1 27 j ∧ (mx (mx (mx M9 27 k (nI t.2.1)) 28 k (nI t.2.2)) 29 k (nI t.1)).1 28 j = M9.1 28 j ∧ (mx (mx (mx M9 27 k (nI t.2.1)) 28 k (nI t.2.2)) 29 k (nI t.1)).1 29 j = M9.1 29 j := fun j hj => ⟨by rw [mx_k hj, mx_k hj, mx_k hj], by rw [mx_k hj, mx_k hj, mx_k hj], by rw [mx_k hj, mx_k hj, mx_k hj]⟩
      refine ih (m - 1) (by omega) (k + 1) _ _ (by omega) (by omega) hm61 ⟨fun s j a1 a2 a3 => by rw [mx_o a3, mx_o a2, mx_o a1]; exact hw9.1 s j a1 a2 a3, hw9.2⟩ hc9 (fun j t hj ht => ?_) (fun j t hj ht => ?_) (fun j t2 hj hj2 ht2 => ?_)
      · rw [(rd j (by omega)).1, (rd j (by omega)).2.1, (rd j (by omega)).2.2]; exact h19 j t hj ht
      · rw [(rd j (by omega)).1, (rd j (by omega)).2.1, (rd j (by omega)).2.2]; exact h29 j t (by omega) ht
      · by_cases e : j = k
        · rw [e] at ht2 ⊢
          rw [ht] at ht2
          obtain rfl := Option.some.inj ht2
          exact ⟨by rw [mx_o (by decide), mx_o (by decide), mx_s], by rw [mx_o (by decide), mx_s], mx_s⟩
        · rw [(rd j e).1, (rd j e).2.1, (rd j e).2.2]; exact h39 j t2 hj (by omega) ht2
  refine pm_aload_n dX7_dropWatch_0 rfl ?_
  refine pm_dup dX7_dropWatch_1 ?_
  refine pm_g_Model_watchCount hm.1 pm_f_X7_151 dX7_dropWatch_2 ?_
  rw [hm.f (g := 380) (f := 30) rfl]
  refine pm_iconst (v := 1) dX7_dropWatch_5 (by decide) ?_
  refine pm_isub dX7_dropWatch_6 ?_
  rw [hv.1, show (1 : Int32) = nI 1 from rfl, pk_sub (by omega)]
  refine pm_p_Model_watchCount hm.1 pm_f_X7_151 dX7_dropWatch_7 ?_
  refine mm_gen (hm.si (g := 380) (f := 30) rfl) (fun S7 hm7 => ?_)
  refine pm_iload_n dX7_dropWatch_10 rfl ?_
  refine pm_istn dX7_dropWatch_11 (i := 2) rfl (by decide) ?_
  dsimp only [List.set]
  exact loop (V.length - 1 - i) i _ _ (by omega) (Nat.le_refl _) hm7 ⟨fun _ _ _ _ _ => rfl, fun f hf => by rw [mi_2, if_neg hf]⟩ (by rw [mi_2, if_pos rfl]) (fun j t _ ht => hv.2 j t ht) (fun j t _ ht => hv.2 j t ht) (fun j t h1 h2 => absurd h2 (by omega))

