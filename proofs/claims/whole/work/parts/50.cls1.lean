/-! ProcessMill: words that touch one process -/
def zLk (q : Option Nat) : List Int32 := match q with
  | some p => [2, nI (p + 1)]
  | none => [1, 3]
theorem kd_of {w : List Int32} {x : Int32} (h : w[0]?.map pm_kd = some x) : zKind w = x := by
  unfold zKind
  rw [List.getD_eq_getElem?_getD]
  cases hw : w[0]? with
  | none => rw [hw] at h; cases h
  | some y => rw [hw] at h; exact Option.some.inj h
theorem val_of {w : List Int32} {x : Int32} (h : w[1]? = some x) : zVal w = x := by
  unfold zVal
  rw [List.getD_eq_getElem?_getD, h]
  rfl
section CXL
variable {Z Z' : az} {S S' E : pm_S} {Y : pm_Y}
theorem pm_CX.lift (hx : pm_CX Z S Y E) (h : pm_CR Z' S' Y E) (e0 : az_a Z' 0 = az_a Z 0) (e : ∀ q, az_b Z' 12 q = az_b Z 12 q) : pm_CX Z' S' Y E := ⟨h, fun p hp => by rw [e]; exact hx.2 p (by rw [← e0]; exact hp)⟩
theorem pm_CX.sb {p f c i v : Nat} (hx : pm_CX Z S Y E) (h : pm_CR (zs_b Z i p v) S' Y E) (hi : i ≠ 12) : pm_CX (zs_b Z i p v) S' Y E := hx.lift h rfl (fun q => z_b_bne (by omega))
theorem pm_CX.own {t : Nat} (hx : pm_CX Z S Y E) (ht : t = 11 ∨ t = 13) (hf : pm_ft S S' (Y.1 t) (Y.1 (t + 1))) : pm_CX Z S' Y E := ⟨hx.1.own ht hf, hx.2⟩
theorem pm_CX.rg {p j : Nat} {w : List Int32} (hx : pm_CX Z S Y E) (hn : az_a Z 0 ≤ 60) (hp : p < az_a Z 0) (hj : j < 8) (hf : pm_ft S S' (Y.1 (pq p (10 + j))) (Y.1 (pq p (20 + j)))) (ht : pm_tm S' (Y.1 (pq p (10 + j))) (Y.1 (pq p (20 + j))) w) : pm_CX (zs_t Z 0 p j w) S' Y E := hx.lift (hx.1.rg hn hp hj hf ht) rfl (fun _ => rfl)
/-- a register, as a term -/
theorem pm_CX.tm {p j : Nat} (hx : pm_CX Z S Y E) (hp : p < az_a Z 0) (hj : j < 8) : pm_tm S (Y.1 (pq p (10 + j))) (Y.1 (pq p (20 + j))) (az_t Z 0 p j) := (hx.1.2.2.2.2.2.2.2.2.2.2.2.2.1 p hp).1 j hj
theorem pm_CX.ts {p : Nat} (hx : pm_CX Z S Y E) (hp : p < az_a Z 0) : pm_tm S (Y.1 (pq p 2)) (Y.1 (pq p 3)) (az_t Z 1 p 0) := (hx.1.2.2.2.2.2.2.2.2.2.2.2.2.1 p hp).2
/-- a message, as a term -/
theorem pm_CX.mt {p k : Nat} (hx : pm_CX Z S Y E) (hp : p < az_a Z 0) (hk : k < az_b Z 9 p) : az_b Z 9 p ≤ 40 ∧ pm_z S (Y.1 (pq p 5)) k = some (Y.1 (pq p (30 + Y.2.2 p k))) ∧ pm_tm S (Y.1 (pq p (30 + Y.2.2 p k))) (Y.1 (pq p (80 + Y.2.2 p k))) (az_t Z 2 p k) := by
  obtain ⟨m1, m2, m3, m4, m5, m6⟩ := hx.1.2.2.2.2.2.2.2.2.2.2.2.2.2.1 p hp
  exact ⟨by omega, by rw [m3 k (by omega), if_pos (by omega)], m6 k hk⟩
theorem pm_CR.push7 {p n v : Nat} (h : pm_CR Z S Y E) (hn : az_a Z 0 ≤ 60) (hp : p < az_a Z 0) (e : az_b Z 7 p = n) : pm_CR (zs_b (zs_c Z 0 p n v) 7 p (n + 1)) (pm_si (pm_sx S (Y.1 (pq p 7)) n (nI v)) 203 (Y.1 (pq p 6)) (nI (n + 1))) Y E := by
  have h1 := h.tr (j := 0) (k := n) (v := v) hn hp (by decide)
  refine h1.b (f := 203) (i := 7) (c := 6) hn hp rfl (h7 := fun _ k hk => ?_)
  rw [pm_x_sx, z_c_c]
  by_cases e2 : k = n
  · rw [if_pos ⟨rfl, e2⟩, if_pos ⟨rfl, rfl, e2⟩]
  · rw [if_neg (fun z => e2 z.2), if_neg (fun z => e2 z.2.2)]
    exact (h.2.2.2.2.2.2.2.2.2.1 p hp).1 k (by omega)
theorem pm_CR.push8 {p n v m : Nat} (h : pm_CR Z S Y E) (hn : az_a Z 0 ≤ 60) (hp : p < az_a Z 0) (e : az_b Z 8 p = n) : pm_CR (zs_b (zs_c (zs_c Z 1 p n v) 2 p n m) 8 p (n + 1)) (pm_si (pm_sx (pm_sx S (Y.1 (pq p 8)) n (nI v)) (Y.1 (pq p 9)) n (nI m)) 204 (Y.1 (pq p 6)) (nI (n + 1))) Y E := by
  have h1 := (h.tr (j := 1) (k := n) (v := v) hn hp (by decide)).tr (j := 2) (k := n) (v := m) hn hp (by decide)
  have n89 : Y.1 (pq p 8) ≠ Y.1 (pq p 9) := fun z => by have := (h.pp hp hp (by decide) (by decide) z).2; omega
  refine h1.b (f := 204) (i := 8) (c := 6) hn hp rfl (h8 := fun _ k hk => ?_)
  have hk8 : k ≠ n → k < az_b Z 8 p := fun z => by omega
  have hK := h.2.2.2.2.2.2.2.2.2.1 p hp
  refine ⟨?_, ?_⟩
  · rw [z_c_c, if_neg (c := 1 = 2 ∧ _) (fun z => absurd z.1 (by decide)), z_c_c, pm_x_sx, if_neg (fun z => n89 z.1), pm_x_sx]
    by_cases e2 : k = n
    · rw [if_pos ⟨rfl, e2⟩, if_pos ⟨rfl, rfl, e2⟩]
    · rw [if_neg (fun z => e2 z.2), if_neg (fun z => e2 z.2.2)]
      exact hK.2.1 k (hk8 e2)
  · rw [pm_x_sx, z_c_c]
    by_cases e2 : k = n
    · rw [if_pos ⟨rfl, e2⟩, if_pos ⟨rfl, rfl, e2⟩]
    · rw [if_neg (fun z => e2 z.2), if_neg (fun z => e2 z.2.2), pm_x_sx, if_neg (fun z => n89 z.1.symm), z_c_c, if_neg (fun z => absurd z.1 (by decide))]
      exact hK.2.2 k (hk8 e2)
theorem pm_CR.pop7 {p v : Nat} (h : pm_CR Z S Y E) (hn : az_a Z 0 ≤ 60) (hp : p < az_a Z 0) (hv : v ≤ az_b Z 7 p) : pm_CR (zs_b Z 7 p v) (pm_si S 203 (Y.1 (pq p 6)) (nI v)) Y E :=
  h.b (f := 203) (i := 7) (c := 6) hn hp rfl (h7 := fun _ k hk => (h.2.2.2.2.2.2.2.2.2.1 p hp).1 k (by omega))
theorem pm_CR.pop8 {p v : Nat} (h : pm_CR Z S Y E) (hn : az_a Z 0 ≤ 60) (hp : p < az_a Z 0) (hv : v ≤ az_b Z 8 p) : pm_CR (zs_b Z 8 p v) (pm_si S 204 (Y.1 (pq p 6)) (nI v)) Y E :=
  h.b (f := 204) (i := 8) (c := 6) hn hp rfl (h8 := fun _ k hk => ⟨(h.2.2.2.2.2.2.2.2.2.1 p hp).2.1 k (by omega), (h.2.2.2.2.2.2.2.2.2.1 p hp).2.2 k (by omega)⟩)
theorem pm_CR.pop9 {p v : Nat} (h : pm_CR Z S Y E) (hn : az_a Z 0 ≤ 60) (hp : p < az_a Z 0) (hv : v ≤ az_b Z 9 p) : pm_CR (zs_b Z 9 p v) (pm_si S 1 (Y.1 (pq p 4)) (nI v)) Y E := by
  obtain ⟨m1, m2, m3, m4, m5, m6⟩ := h.2.2.2.2.2.2.2.2.2.2.2.2.2.1 p hp
  exact h.b (f := 1) (i := 9) (c := 4) hn hp rfl (h9 := fun _ => ⟨by omega, fun k hk => m6 k (by omega)⟩)
end CXL
set_option maxHeartbeats 4000000 in
set_option maxRecDepth 100000 in
theorem c_X6_give (G : pm_G) (l : Launch) (bs : Nat) (t r : Nat) (a b : Int32) (S : pm_S) (ht : pm_to S t r) : pm_M G l bs yX6_give cX6_give 3 (some .int) 2 0 0 [.ref t, .int a, .int b] S (pm_qi (fun x S2 => x = -1 ∧ pm_ft S S2 t r ∧ pm_tm S2 t r [a, b])) := by
  refine pm_Mi (L := [.ref t, .int a, .int b]) (by decide +kernel) rfl (pm_en_1 rfl (pm_en_1 rfl (pm_en_1 rfl (pm_en_0 rfl)))) ?_
  generalize hQ9 : pm_xi (fun x S2 => x = -1 ∧ pm_ft S S2 t r ∧ pm_tm S2 t r [a, b]) = Q9
  refine pm_aload_n dX6_give_0 rfl ?_
  refine pm_iload_n dX6_give_1 rfl ?_
  refine pm_iload_n dX6_give_2 rfl ?_
  refine pm_vv (c_X3_setSingle G l bs t r a b S ht) pm_y_X3_setSingle pm_v_X3_setSingle pm_m_X6_95 (c := 3) (r := (RX3, TX3, 2)) rfl rfl ht.1 dX6_give_3 rfl rfl (by decide) (Nat.le_of_ble_eq_true rfl) (fun S3 h3 => ?_)
  refine pm_iconst (v := (-1)) dX6_give_6 (by decide) ?_
  subst hQ9
  refine pm_iret dX6_give_7 ?_
  exact ⟨rfl, h3.1, h3.2⟩

set_option maxHeartbeats 4000000 in
set_option maxRecDepth 100000 in
theorem c_X6_giveCopy (G : pm_G) (l : Launch) (bs : Nat) (t r t2 r2 : Nat) (w : List Int32) (S : pm_S) (ht : pm_to S t r) (ht2 : pm_tm S t2 r2 w) : pm_M G l bs yX6_giveCopy cX6_giveCopy 2 (some .int) 2 0 0 [.ref t, .ref t2] S (pm_qi (fun x S2 => x = -1 ∧ pm_ft S S2 t r ∧ pm_tm S2 t r w)) := by
  refine pm_Mi (L := [.ref t, .ref t2]) (by decide +kernel) rfl (pm_en_1 rfl (pm_en_1 rfl (pm_en_0 rfl))) ?_
  generalize hQ9 : pm_xi (fun x S2 => x = -1 ∧ pm_ft S S2 t r ∧ pm_tm S2 t r w) = Q9
  refine pm_aload_n dX6_giveCopy_0 rfl ?_
  refine pm_aload_n dX6_giveCopy_1 rfl ?_
  refine pm_vv (c_X3_copy G l bs t r t2 r2 w S ht ht2) pm_y_X3_copy pm_v_X3_copy pm_m_X6_323 (c := 3) (r := (RX3, TX3, 2)) rfl rfl ht.1 dX6_giveCopy_2 rfl rfl (by decide) (Nat.le_of_ble_eq_true rfl) (fun S2 h2 => ?_)
  refine pm_iconst (v := (-1)) dX6_giveCopy_5 (by decide) ?_
  subst hQ9
  refine pm_iret dX6_giveCopy_6 ?_
  exact ⟨rfl, h2.1, h2.2⟩

set_option maxHeartbeats 4000000 in
set_option maxRecDepth 100000 in
theorem c_X6_areNumbers (G : pm_G) (l : Launch) (bs : Nat) (t r t2 r2 : Nat) (u w : List Int32) (S : pm_S) (ht : pm_tm S t r u) (hl1 : 2 ≤ u.length) (ht2 : pm_tm S t2 r2 w) (hl2 : 2 ≤ w.length) : pm_M G l bs yX6_areNumbers cX6_areNumbers 2 (some .boolean) 2 0 0 [.ref t, .ref t2] S (pm_qi (fun x S2 => x = (if zKind u = 0 ∧ zKind w = 0 then 1 else 0) ∧ S2 = S)) := by
  refine pm_Mz (L := [.ref t, .ref t2]) (by decide +kernel) rfl (pm_en_1 rfl (pm_en_1 rfl (pm_en_0 rfl))) ?_
  generalize hQ9 : pm_xz (fun x S2 => x = (if zKind u = 0 ∧ zKind w = 0 then 1 else 0) ∧ S2 = S) = Q9
  refine pm_aload_n dX6_areNumbers_0 rfl ?_
  refine pm_vi (c_X3_kind G l bs t _ u _ ht (by omega)) pm_y_X3_kind pm_v_X3_kind pm_m_X6_167 (c := 3) (r := (RX3, TX3, 2)) rfl rfl ht.1.1 dX6_areNumbers_1 rfl rfl (by decide) (Nat.le_of_ble_eq_true rfl) (fun x1 S1 h1 => ?_)
  obtain ⟨e1, rfl⟩ := h1
  replace e1 := kd_of e1
  subst e1
  refine pm_if_ne (tgt := 18) dX6_areNumbers_4 (by decide) (fun h4 => ?_) (fun h4 => ?_)
  · skip
    have h9 : ¬ (zKind u = 0 ∧ zKind w = 0) := fun z => h4 z.1
    refine pm_iconst (v := 0) dX6_areNumbers_18 (by decide) ?_
    subst hQ9
    refine pm_zret dX6_areNumbers_19 (by first | exact Or.inl rfl | exact Or.inr rfl | assumption) ?_
    first | exact ⟨by rw [if_neg h9], rfl⟩ | exact ⟨by rw [if_pos h9], rfl⟩
  · skip
    refine pm_aload_n dX6_areNumbers_7 rfl ?_
    refine pm_vi (c_X3_kind G l bs t2 _ w _ ht2 (by omega)) pm_y_X3_kind pm_v_X3_kind pm_m_X6_167 (c := 3) (r := (RX3, TX3, 2)) rfl rfl ht2.1.1 dX6_areNumbers_8 rfl rfl (by decide) (Nat.le_of_ble_eq_true rfl) (fun x8 S8 h8 => ?_)
    obtain ⟨e8, rfl⟩ := h8
    replace e8 := kd_of e8
    subst e8
    refine pm_if_ne (tgt := 18) dX6_areNumbers_11 (by decide) (fun h11 => ?_) (fun h11 => ?_)
    · skip
      have h9 : ¬ (zKind u = 0 ∧ zKind w = 0) := fun z => h11 z.2
      refine pm_iconst (v := 0) dX6_areNumbers_18 (by decide) ?_
      subst hQ9
      refine pm_zret dX6_areNumbers_19 (by first | exact Or.inl rfl | exact Or.inr rfl | assumption) ?_
      first | exact ⟨by rw [if_neg h9], rfl⟩ | exact ⟨by rw [if_pos h9], rfl⟩
    · skip
      have h9 : zKind u = 0 ∧ zKind w = 0 := ⟨h4, h11⟩
      refine pm_iconst (v := 1) dX6_areNumbers_14 (by decide) ?_
      refine pm_goto (tgt := 19) dX6_areNumbers_15 (by decide) ?_
      subst hQ9
      refine pm_zret dX6_areNumbers_19 (by first | exact Or.inl rfl | exact Or.inr rfl | assumption) ?_
      first | exact ⟨by rw [if_neg h9], rfl⟩ | exact ⟨by rw [if_pos h9], rfl⟩

set_option maxHeartbeats 4000000 in
set_option maxRecDepth 100000 in
theorem c_X6_lookUp (G : pm_G) (l : Launch) (bs : Nat) (Z : az) (Y : pm_Y) (E : pm_S) (s : Nat) (t r : Nat) (q : Option Nat) (S : pm_S) (hx : pm_CX Z S Y E) (hI : zI s Z) (ht : pm_to S t r) (hqn : ∀ p, q = some p → p < az_a Z 0) : pm_M G l bs yX6_lookUp cX6_lookUp 2 (some .int) 2 0 0 [.ref t, va_rf (q.map (fun p => Y.1 (pq p 0)))] S (pm_qi (fun x S2 => x = -1 ∧ pm_ft S S2 t r ∧ pm_tm S2 t r (zLk q))) := by
  have hn := hI.1
  have hsm := hI.sm
  obtain ⟨h, hmk⟩ := id hx
  have hA := h.2.2.2.2.2.1
  obtain ⟨⟨hk0, hr0, hr1, hr2, hr3, hr4, hr5, hr6, hr7⟩, ⟨hk1, hl1⟩, ⟨hk2, hl2⟩, ⟨hk3, hl3⟩, ⟨hk4, hl4⟩, hWt, hSh, hLt, hCs⟩ := id h.2.2.1
  obtain ⟨kW, rW1, rW2, rW3, kW1, nW1, kW2, nW2, kW3, nW3, -⟩ := id hWt
  refine pm_Mi (L := [.ref t, va_rf (q.map (fun p => Y.1 (pq p 0)))]) (by decide +kernel) rfl (pm_en_1 rfl (pm_en_1 (pm_rf_cat _) (pm_en_0 rfl))) ?_
  generalize hQ9 : pm_xi (fun x S2 => x = -1 ∧ pm_ft S S2 t r ∧ pm_tm S2 t r (zLk q)) = Q9
  refine pm_aload_n dX6_lookUp_0 rfl ?_
  cases hq : q with
  | some p =>
    refine pm_ifnonnull_r (tgt := 13) dX6_lookUp_1 (by decide) ?_
    have hp := hqn p hq
    have hB := h.2.2.2.2.1 p hp
    obtain ⟨⟨pk0, pr1, pr2, pr4, pr6, ppid⟩, ⟨pk1, pn1, pz1⟩, hmb, hts⟩ := id (h.2.2.2.1 p hp)
    refine pm_aload_n dX6_lookUp_13 rfl ?_
    refine pm_iconst (v := 2) dX6_lookUp_14 (by decide) ?_
    refine pm_aload_n dX6_lookUp_15 rfl ?_
    refine pm_g_Proc_pid (by (try simp only [pm_k_si, pm_k_sj, pm_k_sp, pm_k_sx, pm_k_sz, pm_k_sr, pm_k_sy]); assumption) pm_f_X6_88 dX6_lookUp_16 ?_
    rw [ppid]
    refine pm_vv (c_X3_setSingle G l bs t r 2 (nI (p + 1)) S ht) pm_y_X3_setSingle pm_v_X3_setSingle pm_m_X6_95 (c := 3) (r := (RX3, TX3, 2)) rfl rfl ht.1 dX6_lookUp_19 rfl rfl (by decide) (Nat.le_of_ble_eq_true rfl) (fun S19 h19 => ?_)
    refine pm_iconst (v := (-1)) dX6_lookUp_22 (by decide) ?_
    subst hQ9
    refine pm_iret dX6_lookUp_23 ?_
    first | exact ⟨rfl, h7.1, by rw [hq]; exact h7.2⟩ | exact ⟨rfl, h19.1, by rw [hq]; exact h19.2⟩
  | none =>
    refine pm_ifnonnull_n dX6_lookUp_1 ?_
    refine pm_aload_n dX6_lookUp_4 rfl ?_
    refine pm_iconst (v := 1) dX6_lookUp_5 (by decide) ?_
    refine pm_iconst (v := 3) dX6_lookUp_6 (by decide) ?_
    refine pm_vv (c_X3_setSingle G l bs t r 1 3 S ht) pm_y_X3_setSingle pm_v_X3_setSingle pm_m_X6_95 (c := 3) (r := (RX3, TX3, 2)) rfl rfl ht.1 dX6_lookUp_7 rfl rfl (by decide) (Nat.le_of_ble_eq_true rfl) (fun S7 h7 => ?_)
    refine pm_goto (tgt := 22) dX6_lookUp_10 (by decide) ?_
    refine pm_iconst (v := (-1)) dX6_lookUp_22 (by decide) ?_
    subst hQ9
    refine pm_iret dX6_lookUp_23 ?_
    first | exact ⟨rfl, h7.1, by rw [hq]; exact h7.2⟩ | exact ⟨rfl, h19.1, by rw [hq]; exact h19.2⟩

set_option maxHeartbeats 4000000 in
set_option maxRecDepth 100000 in
theorem c_X6_goOn (G : pm_G) (l : Launch) (bs : Nat) (Z : az) (Y : pm_Y) (E : pm_S) (s : Nat) (p : Nat) (i g : Int32) (S : pm_S) (hx : pm_CX Z S Y E) (hI : zI s Z) (hp : p < az_a Z 0) : pm_M G l bs yX6_goOn cX6_goOn 3 (some .int) 2 0 0 [.ref (Y.1 (pq p 0)), .int i, .int g] S (pm_qi (fun x S2 => x = -1 ∧ pm_CX (if g = 0 then Z else zAt Z p (pm_mod i 300)) S2 Y E)) := by
  have hn := hI.1
  have hsm := hI.sm
  obtain ⟨h, hmk⟩ := id hx
  have hA := h.2.2.2.2.2.1
  obtain ⟨⟨hk0, hr0, hr1, hr2, hr3, hr4, hr5, hr6, hr7⟩, ⟨hk1, hl1⟩, ⟨hk2, hl2⟩, ⟨hk3, hl3⟩, ⟨hk4, hl4⟩, hWt, hSh, hLt, hCs⟩ := id h.2.2.1
  obtain ⟨kW, rW1, rW2, rW3, kW1, nW1, kW2, nW2, kW3, nW3, -⟩ := id hWt
  have hB := h.2.2.2.2.1 p hp
  obtain ⟨⟨pk0, pr1, pr2, pr4, pr6, ppid⟩, ⟨pk1, pn1, pz1⟩, hmb, hts⟩ := id (h.2.2.2.1 p hp)
  refine pm_Mi (L := [.ref (Y.1 (pq p 0)), .int i, .int g]) (by decide +kernel) rfl (pm_en_1 rfl (pm_en_1 rfl (pm_en_1 rfl (pm_en_0 rfl)))) ?_
  generalize hQ9 : pm_xi (fun x S2 => x = -1 ∧ pm_CX (if g = 0 then Z else zAt Z p (pm_mod i 300)) S2 Y E) = Q9
  refine pm_iload_n dX6_goOn_0 rfl ?_
  refine pm_if_eq (tgt := 12) dX6_goOn_1 (by decide) (fun h1 => ?_) (fun h1 => ?_)
  · skip
    refine pm_iconst (v := (-1)) dX6_goOn_12 (by decide) ?_
    subst hQ9
    refine pm_iret dX6_goOn_13 ?_
    first
    | exact ⟨rfl, by rw [if_pos h1]; exact hx⟩
    | exact ⟨rfl, by rw [if_neg h1]; exact hx.lift (h.b (f := 57) (i := 2) (c := 0) hn hp rfl) rfl (fun q => z_b_bne (by decide))⟩
  · skip
    refine pm_aload_n dX6_goOn_4 rfl ?_
    refine pm_iload_n dX6_goOn_5 rfl ?_
    refine pm_ssi (c_X6_place G l bs i S) pm_y_X6_place pm_s_X6_place pm_m_X6_194 dX6_goOn_6 rfl rfl (by decide) (Nat.le_of_ble_eq_true rfl) (fun x6 S6 h6 => ?_)
    obtain ⟨rfl, rfl⟩ := h6
    refine pm_p_Proc_at (by (try simp only [pm_k_si, pm_k_sj, pm_k_sp, pm_k_sx, pm_k_sz, pm_k_sr, pm_k_sy]); assumption) pm_f_X6_175 dX6_goOn_9 ?_
    refine pm_iconst (v := (-1)) dX6_goOn_12 (by decide) ?_
    subst hQ9
    refine pm_iret dX6_goOn_13 ?_
    first
    | exact ⟨rfl, by rw [if_pos h1]; exact hx⟩
    | exact ⟨rfl, by rw [if_neg h1]; exact hx.lift (h.b (f := 57) (i := 2) (c := 0) hn hp rfl) rfl (fun q => z_b_bne (by decide))⟩

set_option maxHeartbeats 4000000 in
set_option maxRecDepth 100000 in
theorem c_X6_trap (G : pm_G) (l : Launch) (bs : Nat) (Z : az) (Y : pm_Y) (E : pm_S) (s : Nat) (p : Nat) (g : Int32) (v : Nat) (S : pm_S) (hx : pm_CX Z S Y E) (hI : zI s Z) (hp : p < az_a Z 0) (hg : g = nI v) (hv : v ≤ 1) : pm_M G l bs yX6_trap cX6_trap 2 (some .int) 0 0 0 [.ref (Y.1 (pq p 0)), .int g] S (pm_qi (fun x S2 => x = -1 ∧ pm_CX (zs_b Z 11 p v) S2 Y E)) := by
  have hn := hI.1
  have hsm := hI.sm
  obtain ⟨h, hmk⟩ := id hx
  have hA := h.2.2.2.2.2.1
  obtain ⟨⟨hk0, hr0, hr1, hr2, hr3, hr4, hr5, hr6, hr7⟩, ⟨hk1, hl1⟩, ⟨hk2, hl2⟩, ⟨hk3, hl3⟩, ⟨hk4, hl4⟩, hWt, hSh, hLt, hCs⟩ := id h.2.2.1
  obtain ⟨kW, rW1, rW2, rW3, kW1, nW1, kW2, nW2, kW3, nW3, -⟩ := id hWt
  have hB := h.2.2.2.2.1 p hp
  obtain ⟨⟨pk0, pr1, pr2, pr4, pr6, ppid⟩, ⟨pk1, pn1, pz1⟩, hmb, hts⟩ := id (h.2.2.2.1 p hp)
  refine pm_Mi (L := [.ref (Y.1 (pq p 0)), .int g]) (by decide +kernel) rfl (pm_en_1 rfl (pm_en_1 rfl (pm_en_0 rfl))) ?_
  generalize hQ9 : pm_xi (fun x S2 => x = -1 ∧ pm_CX (zs_b Z 11 p v) S2 Y E) = Q9
  refine pm_aload_n dX6_trap_0 rfl ?_
  refine pm_iload_n dX6_trap_1 rfl ?_
  have hg1 : g = 0 ∨ g = 1 := by
    have : v = 0 ∨ v = 1 := by omega
    rcases this with rfl | rfl
    · exact Or.inl hg
    · exact Or.inr hg
  refine pm_p_Proc_traps (by (try simp only [pm_k_si, pm_k_sj, pm_k_sp, pm_k_sx, pm_k_sz, pm_k_sr, pm_k_sy]); assumption) pm_f_X6_389 (by assumption) dX6_trap_2 ?_
  refine pm_iconst (v := (-1)) dX6_trap_5 (by decide) ?_
  subst hQ9
  refine pm_iret dX6_trap_6 ?_
  subst hg
  exact ⟨rfl, hx.lift (h.b (f := 63) (i := 11) (c := 0) hn hp rfl) rfl (fun q => z_b_bne (by decide))⟩

set_option maxHeartbeats 4000000 in
set_option maxRecDepth 100000 in
theorem c_X6_dropCatch (G : pm_G) (l : Launch) (bs : Nat) (Z : az) (Y : pm_Y) (E : pm_S) (s : Nat) (p : Nat) (S : pm_S) (hx : pm_CX Z S Y E) (hI : zI s Z) (hp : p < az_a Z 0) : pm_M G l bs yX6_dropCatch cX6_dropCatch 1 (some .int) 1 0 0 [.ref (Y.1 (pq p 0))] S (pm_qi (fun x S2 => x = -1 ∧ pm_CX (if az_b Z 8 p = 0 then Z else zs_b Z 8 p (az_b Z 8 p - 1)) S2 Y E)) := by
  have hn := hI.1
  have hsm := hI.sm
  obtain ⟨h, hmk⟩ := id hx
  have hA := h.2.2.2.2.2.1
  obtain ⟨⟨hk0, hr0, hr1, hr2, hr3, hr4, hr5, hr6, hr7⟩, ⟨hk1, hl1⟩, ⟨hk2, hl2⟩, ⟨hk3, hl3⟩, ⟨hk4, hl4⟩, hWt, hSh, hLt, hCs⟩ := id h.2.2.1
  obtain ⟨kW, rW1, rW2, rW3, kW1, nW1, kW2, nW2, kW3, nW3, -⟩ := id hWt
  have hB := h.2.2.2.2.1 p hp
  obtain ⟨⟨pk0, pr1, pr2, pr4, pr6, ppid⟩, ⟨pk1, pn1, pz1⟩, hmb, hts⟩ := id (h.2.2.2.1 p hp)
  refine pm_Mi (L := [.ref (Y.1 (pq p 0))]) (by decide +kernel) rfl (pm_en_1 rfl (pm_en_0 rfl)) ?_
  generalize hQ9 : pm_xi (fun x S2 => x = -1 ∧ pm_CX (if az_b Z 8 p = 0 then Z else zs_b Z 8 p (az_b Z 8 p - 1)) S2 Y E) = Q9
  refine pm_aload_n dX6_dropCatch_0 rfl ?_
  refine pm_g_Proc_trail (by (try simp only [pm_k_si, pm_k_sj, pm_k_sp, pm_k_sx, pm_k_sz, pm_k_sr, pm_k_sy]); assumption) pm_f_X6_250 (by (try simp only [pm_p_si, pm_p_sj, pm_p_sx, pm_p_sz, pm_p_sr, pm_p_sy]); assumption) dX6_dropCatch_1 ?_
  refine pm_vv (c_X4_dropCatch G l bs (Y.1 (pq p 6)) (Y.1 (pq p 7)) (Y.1 (pq p 8)) (Y.1 (pq p 9)) (az_b Z 8 p) S hts (hB 204 6 8 rfl) (hI.b hp 8)) pm_y_X4_dropCatch pm_v_X4_dropCatch pm_m_X6_337 (c := 4) (r := (RX4, TX4, 5)) rfl rfl hts.1 dX6_dropCatch_4 rfl rfl (by decide) (Nat.le_of_ble_eq_true rfl) (fun S4 h4 => ?_)
  refine pm_iconst (v := (-1)) dX6_dropCatch_7 (by decide) ?_
  subst hQ9
  refine pm_iret dX6_dropCatch_8 ?_
  rcases h4 with ⟨e, rfl⟩ | ⟨e, rfl⟩
  · exact ⟨rfl, by rw [if_pos e]; exact hx⟩
  · exact ⟨rfl, by rw [if_neg (by omega)]; exact hx.lift (h.pop8 hn hp (by omega)) rfl (fun q => z_b_bne (by decide))⟩

set_option maxHeartbeats 4000000 in
set_option maxRecDepth 100000 in
theorem c_X6_advance (G : pm_G) (l : Launch) (bs : Nat) (Z : az) (Y : pm_Y) (E : pm_S) (s : Nat) (p : Nat) (S : pm_S) (hx : pm_CX Z S Y E) (hI : zI s Z) (hp : p < az_a Z 0) : pm_M G l bs yX6_advance cX6_advance 1 (some .int) 1 0 0 [.ref (Y.1 (pq p 0))] S (pm_qi (fun x S2 => x = -1 ∧ pm_CX (if az_b Z 10 p < az_b Z 9 p then zs_b Z 10 p (az_b Z 10 p + 1) else Z) S2 Y E)) := by
  have hn := hI.1
  have hsm := hI.sm
  obtain ⟨h, hmk⟩ := id hx
  have hA := h.2.2.2.2.2.1
  obtain ⟨⟨hk0, hr0, hr1, hr2, hr3, hr4, hr5, hr6, hr7⟩, ⟨hk1, hl1⟩, ⟨hk2, hl2⟩, ⟨hk3, hl3⟩, ⟨hk4, hl4⟩, hWt, hSh, hLt, hCs⟩ := id h.2.2.1
  obtain ⟨kW, rW1, rW2, rW3, kW1, nW1, kW2, nW2, kW3, nW3, -⟩ := id hWt
  have hB := h.2.2.2.2.1 p hp
  obtain ⟨⟨pk0, pr1, pr2, pr4, pr6, ppid⟩, ⟨pk1, pn1, pz1⟩, hmb, hts⟩ := id (h.2.2.2.1 p hp)
  refine pm_Mi (L := [.ref (Y.1 (pq p 0))]) (by decide +kernel) rfl (pm_en_1 rfl (pm_en_0 rfl)) ?_
  generalize hQ9 : pm_xi (fun x S2 => x = -1 ∧ pm_CX (if az_b Z 10 p < az_b Z 9 p then zs_b Z 10 p (az_b Z 10 p + 1) else Z) S2 Y E) = Q9
  refine pm_aload_n dX6_advance_0 rfl ?_
  refine pm_g_Proc_box (by (try simp only [pm_k_si, pm_k_sj, pm_k_sp, pm_k_sx, pm_k_sz, pm_k_sr, pm_k_sy]); assumption) pm_f_X6_114 (by (try simp only [pm_p_si, pm_p_sj, pm_p_sx, pm_p_sz, pm_p_sr, pm_p_sy]); assumption) dX6_advance_1 ?_
  refine pm_vv (c_X0_advance G l bs (Y.1 (pq p 4)) (Y.1 (pq p 5)) (az_b Z 9 p) (az_b Z 10 p) S hmb (hB 1 4 9 rfl) (hI.b hp 9) (hB 2 4 10 rfl) (hsm p hp 10 (by decide))) pm_y_X0_advance pm_v_X0_advance pm_m_X6_355 (c := 0) (r := (RX0, TX0, 3)) rfl rfl hmb.1 dX6_advance_4 rfl rfl (by decide) (Nat.le_of_ble_eq_true rfl) (fun S4 h4 => ?_)
  refine pm_iconst (v := (-1)) dX6_advance_7 (by decide) ?_
  subst hQ9
  refine pm_iret dX6_advance_8 ?_
  rcases h4 with ⟨e, rfl⟩ | ⟨e, rfl⟩
  · exact ⟨rfl, by rw [if_pos e]; exact hx.lift (h.b (f := 2) (i := 10) (c := 4) hn hp rfl) rfl (fun q => z_b_bne (by decide))⟩
  · exact ⟨rfl, by rw [if_neg (by omega)]; exact hx⟩

set_option maxHeartbeats 4000000 in
set_option maxRecDepth 100000 in
theorem c_X6_callWord (G : pm_G) (l : Launch) (bs : Nat) (Z : az) (Y : pm_Y) (E : pm_S) (s : Nat) (p a : Nat) (S : pm_S) (hx : pm_CX Z S Y E) (hI : zI s Z) (hp : p < az_a Z 0) : pm_M G l bs yX6_callWord cX6_callWord 2 (some .int) 1 0 0 [.ref (Y.1 (pq p 0)), .int (nI a)] S (pm_qi (fun x S2 => (az_b Z 7 p < 16 ∧ x = -1 ∧ pm_CX (zAt (zs_b (zs_c Z 0 p (az_b Z 7 p) (az_b Z 2 p)) 7 p (az_b Z 7 p + 1)) p a) S2 Y E) ∨ (16 ≤ az_b Z 7 p ∧ x = 5 ∧ S2 = S))) := by
  have hn := hI.1
  have hsm := hI.sm
  obtain ⟨h, hmk⟩ := id hx
  have hA := h.2.2.2.2.2.1
  obtain ⟨⟨hk0, hr0, hr1, hr2, hr3, hr4, hr5, hr6, hr7⟩, ⟨hk1, hl1⟩, ⟨hk2, hl2⟩, ⟨hk3, hl3⟩, ⟨hk4, hl4⟩, hWt, hSh, hLt, hCs⟩ := id h.2.2.1
  obtain ⟨kW, rW1, rW2, rW3, kW1, nW1, kW2, nW2, kW3, nW3, -⟩ := id hWt
  have hB := h.2.2.2.2.1 p hp
  obtain ⟨⟨pk0, pr1, pr2, pr4, pr6, ppid⟩, ⟨pk1, pn1, pz1⟩, hmb, hts⟩ := id (h.2.2.2.1 p hp)
  refine pm_Mi (L := [.ref (Y.1 (pq p 0)), .int (nI a)]) (by decide +kernel) rfl (pm_en_1 rfl (pm_en_1 rfl (pm_en_0 rfl))) ?_
  generalize hQ9 : pm_xi (fun x S2 => (az_b Z 7 p < 16 ∧ x = -1 ∧ pm_CX (zAt (zs_b (zs_c Z 0 p (az_b Z 7 p) (az_b Z 2 p)) 7 p (az_b Z 7 p + 1)) p a) S2 Y E) ∨ (16 ≤ az_b Z 7 p ∧ x = 5 ∧ S2 = S)) = Q9
  refine pm_aload_n dX6_callWord_0 rfl ?_
  refine pm_g_Proc_trail (by (try simp only [pm_k_si, pm_k_sj, pm_k_sp, pm_k_sx, pm_k_sz, pm_k_sr, pm_k_sy]); assumption) pm_f_X6_250 (by (try simp only [pm_p_si, pm_p_sj, pm_p_sx, pm_p_sz, pm_p_sr, pm_p_sy]); assumption) dX6_callWord_1 ?_
  refine pm_aload_n dX6_callWord_4 rfl ?_
  refine pm_g_Proc_at (by (try simp only [pm_k_si, pm_k_sj, pm_k_sp, pm_k_sx, pm_k_sz, pm_k_sr, pm_k_sy]); assumption) pm_f_X6_175 dX6_callWord_5 ?_
  rw [hB 57 0 2 rfl]
  refine pm_vi (c_X4_addBack G l bs (Y.1 (pq p 6)) (Y.1 (pq p 7)) (Y.1 (pq p 8)) (Y.1 (pq p 9)) (az_b Z 7 p) (nI (az_b Z 2 p)) S hts (hB 203 6 7 rfl) (hsm p hp 7 (by decide))) pm_y_X4_addBack pm_v_X4_addBack pm_m_X6_327 (c := 4) (r := (RX4, TX4, 5)) rfl rfl hts.1 dX6_callWord_8 rfl rfl (by decide) (Nat.le_of_ble_eq_true rfl) (fun x8 S8 h8 => ?_)
  refine pm_if_ne (tgt := 16) dX6_callWord_11 (by decide) (fun h11 => ?_) (fun h11 => ?_)
  · skip
    rcases h8 with ⟨h9, e8, -⟩ | ⟨h9, -, rfl⟩
    · exact absurd e8 h11
    refine pm_aload_n dX6_callWord_16 rfl ?_
    refine pm_iload_n dX6_callWord_17 rfl ?_
    refine pm_p_Proc_at (by (try simp only [pm_k_si, pm_k_sj, pm_k_sp, pm_k_sx, pm_k_sz, pm_k_sr, pm_k_sy]); assumption) pm_f_X6_175 dX6_callWord_18 ?_
    refine pm_iconst (v := (-1)) dX6_callWord_21 (by decide) ?_
    subst hQ9
    refine pm_iret dX6_callWord_22 ?_
    exact Or.inl ⟨h9, rfl, hx.lift ((h.push7 hn hp rfl).b (f := 57) (i := 2) (c := 0) (v := a) hn hp rfl) rfl (fun q => by unfold zAt; rw [z_b_bne (by decide), z_b_bne (by decide), z_b_c])⟩
  · skip
    rcases h8 with ⟨h9, -, rfl⟩ | ⟨h9, e8, -⟩
    case inr => rw [e8] at h11; exact absurd h11 (by decide)
    refine pm_iconst (v := 5) dX6_callWord_14 (by decide) ?_
    subst hQ9
    refine pm_iret dX6_callWord_15 ?_
    exact Or.inr ⟨h9, rfl, rfl⟩

set_option maxHeartbeats 4000000 in
set_option maxRecDepth 100000 in
theorem c_X6_readMail (G : pm_G) (l : Launch) (bs : Nat) (Z : az) (Y : pm_Y) (E : pm_S) (s : Nat) (p t r : Nat) (i : Int32) (S : pm_S) (hx : pm_CX Z S Y E) (hI : zI s Z) (hp : p < az_a Z 0) (ht : pm_to S t r) : pm_M G l bs yX6_readMail cX6_readMail 4 (some .int) 2 0 0 [.ref (Y.1 (pq p 0)), .ref t, .int i] S (pm_qi (fun x S2 => x = -1 ∧ ((az_b Z 10 p < az_b Z 9 p ∧ pm_ft S S2 t r ∧ pm_tm S2 t r (az_t Z 2 p (az_b Z 10 p))) ∨ (¬ az_b Z 10 p < az_b Z 9 p ∧ pm_CX (zAt Z p (pm_mod i 300)) S2 Y E)))) := by
  have hn := hI.1
  have hsm := hI.sm
  obtain ⟨h, hmk⟩ := id hx
  have hA := h.2.2.2.2.2.1
  obtain ⟨⟨hk0, hr0, hr1, hr2, hr3, hr4, hr5, hr6, hr7⟩, ⟨hk1, hl1⟩, ⟨hk2, hl2⟩, ⟨hk3, hl3⟩, ⟨hk4, hl4⟩, hWt, hSh, hLt, hCs⟩ := id h.2.2.1
  obtain ⟨kW, rW1, rW2, rW3, kW1, nW1, kW2, nW2, kW3, nW3, -⟩ := id hWt
  have hB := h.2.2.2.2.1 p hp
  obtain ⟨⟨pk0, pr1, pr2, pr4, pr6, ppid⟩, ⟨pk1, pn1, pz1⟩, hmb, hts⟩ := id (h.2.2.2.1 p hp)
  refine pm_Mi (L := [.ref (Y.1 (pq p 0)), .ref t, .int i, pm_u]) (by decide +kernel) rfl (pm_en_1 rfl (pm_en_1 rfl (pm_en_1 rfl (pm_en_0 rfl)))) ?_
  generalize hQ9 : pm_xi (fun x S2 => x = -1 ∧ ((az_b Z 10 p < az_b Z 9 p ∧ pm_ft S S2 t r ∧ pm_tm S2 t r (az_t Z 2 p (az_b Z 10 p))) ∨ (¬ az_b Z 10 p < az_b Z 9 p ∧ pm_CX (zAt Z p (pm_mod i 300)) S2 Y E))) = Q9
  refine pm_aload_n dX6_readMail_0 rfl ?_
  refine pm_g_Proc_box (by (try simp only [pm_k_si, pm_k_sj, pm_k_sp, pm_k_sx, pm_k_sz, pm_k_sr, pm_k_sy]); assumption) pm_f_X6_114 (by (try simp only [pm_p_si, pm_p_sj, pm_p_sx, pm_p_sz, pm_p_sr, pm_p_sy]); assumption) dX6_readMail_1 ?_
  refine pm_vr (c_X0_atPointer G l bs (Y.1 (pq p 4)) (Y.1 (pq p 5)) (az_b Z 9 p) (az_b Z 10 p) S hmb (hB 1 4 9 rfl) (hI.b hp 9) (hB 2 4 10 rfl) (hsm p hp 10 (by decide))) pm_y_X0_atPointer pm_v_X0_atPointer pm_m_X6_348 (c := 0) (r := (RX0, TX0, 3)) rfl rfl hmb.1 dX6_readMail_4 rfl rfl (by decide) (Nat.le_of_ble_eq_true rfl) (fun x4 S4 h4 => ?_)
  obtain ⟨e4, rfl⟩ := h4
  have e4 : x4 = if az_b Z 10 p < az_b Z 9 p then some (Y.1 (pq p (30 + Y.2.2 p (az_b Z 10 p)))) else none := by
    rw [e4]
    by_cases q : az_b Z 10 p < az_b Z 9 p
    · rw [if_pos q, if_pos q, (hx.mt hp q).2.1]
    · rw [if_neg q, if_neg q]
  refine pm_astn dX6_readMail_7 (i := 3) rfl (by decide) ?_
  dsimp only [List.set]
  refine pm_aload_n dX6_readMail_8 rfl ?_
  cases hz9 : x4 with
  | some t9 =>
    refine pm_ifnonnull_r (tgt := 23) dX6_readMail_9 (by decide) ?_
    have h9 : az_b Z 10 p < az_b Z 9 p := by
      by_cases q : az_b Z 10 p < az_b Z 9 p
      · exact q
      · rw [if_neg q] at e4; rw [e4] at hz9; cases hz9
    rw [if_pos h9] at e4
    subst e4
    obtain rfl := Option.some.inj hz9
    obtain ⟨-, hmz, hmt⟩ := hx.mt hp h9
    refine pm_aload_n dX6_readMail_23 rfl ?_
    refine pm_aload_n dX6_readMail_24 rfl ?_
    refine pm_vv (c_X3_copy G l bs t r _ _ _ _ ht hmt) pm_y_X3_copy pm_v_X3_copy pm_m_X6_323 (c := 3) (r := (RX3, TX3, 2)) rfl rfl ht.1 dX6_readMail_25 rfl rfl (by decide) (Nat.le_of_ble_eq_true rfl) (fun S25 h25 => ?_)
    refine pm_iconst (v := (-1)) dX6_readMail_28 (by decide) ?_
    subst hQ9
    refine pm_iret dX6_readMail_29 ?_
    first
    | exact ⟨rfl, Or.inl ⟨h9, h25.1, h25.2⟩⟩
    | exact ⟨rfl, Or.inr ⟨h9, hx.lift (h.b (f := 57) (i := 2) (c := 0) hn hp rfl) rfl (fun q => z_b_bne (by decide))⟩⟩
  | none =>
    refine pm_ifnonnull_n dX6_readMail_9 ?_
    have h9 : ¬ az_b Z 10 p < az_b Z 9 p := fun q => by rw [if_pos q] at e4; rw [e4] at hz9; cases hz9
    refine pm_aload_n dX6_readMail_12 rfl ?_
    refine pm_iload_n dX6_readMail_13 rfl ?_
    refine pm_ssi (c_X6_place G l bs i _) pm_y_X6_place pm_s_X6_place pm_m_X6_194 dX6_readMail_14 rfl rfl (by decide) (Nat.le_of_ble_eq_true rfl) (fun x14 S14 h14 => ?_)
    obtain ⟨rfl, rfl⟩ := h14
    refine pm_p_Proc_at (by (try simp only [pm_k_si, pm_k_sj, pm_k_sp, pm_k_sx, pm_k_sz, pm_k_sr, pm_k_sy]); assumption) pm_f_X6_175 dX6_readMail_17 ?_
    refine pm_goto (tgt := 28) dX6_readMail_20 (by decide) ?_
    refine pm_iconst (v := (-1)) dX6_readMail_28 (by decide) ?_
    subst hQ9
    refine pm_iret dX6_readMail_29 ?_
    first
    | exact ⟨rfl, Or.inl ⟨h9, h25.1, h25.2⟩⟩
    | exact ⟨rfl, Or.inr ⟨h9, hx.lift (h.b (f := 57) (i := 2) (c := 0) hn hp rfl) rfl (fun q => z_b_bne (by decide))⟩⟩

set_option maxHeartbeats 4000000 in
set_option maxRecDepth 100000 in
theorem c_X6_await (G : pm_G) (l : Launch) (bs : Nat) (Z : az) (Y : pm_Y) (E : pm_S) (s : Nat) (p a : Nat) (S : pm_S) (hx : pm_CX Z S Y E) (hI : zI s Z) (hp : p < az_a Z 0) : pm_M G l bs yX6_await cX6_await 2 (some .int) 2 0 0 [.ref (Y.1 (pq p 0)), .int (nI a)] S (pm_qi (fun x S2 => x = -1 ∧ pm_CX (if az_b Z 10 p < az_b Z 9 p then zAt Z p a else zs_e (zs_b (zs_b (zs_b Z 1 p 1) 3 p a) 4 p a) 1 p none) S2 Y E)) := by
  have hn := hI.1
  have hsm := hI.sm
  obtain ⟨h, hmk⟩ := id hx
  have hA := h.2.2.2.2.2.1
  obtain ⟨⟨hk0, hr0, hr1, hr2, hr3, hr4, hr5, hr6, hr7⟩, ⟨hk1, hl1⟩, ⟨hk2, hl2⟩, ⟨hk3, hl3⟩, ⟨hk4, hl4⟩, hWt, hSh, hLt, hCs⟩ := id h.2.2.1
  obtain ⟨kW, rW1, rW2, rW3, kW1, nW1, kW2, nW2, kW3, nW3, -⟩ := id hWt
  have hB := h.2.2.2.2.1 p hp
  obtain ⟨⟨pk0, pr1, pr2, pr4, pr6, ppid⟩, ⟨pk1, pn1, pz1⟩, hmb, hts⟩ := id (h.2.2.2.1 p hp)
  refine pm_Mi (L := [.ref (Y.1 (pq p 0)), .int (nI a)]) (by decide +kernel) rfl (pm_en_1 rfl (pm_en_1 rfl (pm_en_0 rfl))) ?_
  generalize hQ9 : pm_xi (fun x S2 => x = -1 ∧ pm_CX (if az_b Z 10 p < az_b Z 9 p then zAt Z p a else zs_e (zs_b (zs_b (zs_b Z 1 p 1) 3 p a) 4 p a) 1 p none) S2 Y E) = Q9
  refine pm_aload_n dX6_await_0 rfl ?_
  refine pm_g_Proc_box (by (try simp only [pm_k_si, pm_k_sj, pm_k_sp, pm_k_sx, pm_k_sz, pm_k_sr, pm_k_sy]); assumption) pm_f_X6_114 (by (try simp only [pm_p_si, pm_p_sj, pm_p_sx, pm_p_sz, pm_p_sr, pm_p_sy]); assumption) dX6_await_1 ?_
  refine pm_vr (c_X0_atPointer G l bs (Y.1 (pq p 4)) (Y.1 (pq p 5)) (az_b Z 9 p) (az_b Z 10 p) S hmb (hB 1 4 9 rfl) (hI.b hp 9) (hB 2 4 10 rfl) (hsm p hp 10 (by decide))) pm_y_X0_atPointer pm_v_X0_atPointer pm_m_X6_348 (c := 0) (r := (RX0, TX0, 3)) rfl rfl hmb.1 dX6_await_4 rfl rfl (by decide) (Nat.le_of_ble_eq_true rfl) (fun x4 S4 h4 => ?_)
  obtain ⟨e4, rfl⟩ := h4
  have e4 : x4 = if az_b Z 10 p < az_b Z 9 p then some (Y.1 (pq p (30 + Y.2.2 p (az_b Z 10 p)))) else none := by
    rw [e4]
    by_cases q : az_b Z 10 p < az_b Z 9 p
    · rw [if_pos q, if_pos q, (hx.mt hp q).2.1]
    · rw [if_neg q, if_neg q]
  cases hz7 : x4 with
  | some t7 =>
    refine pm_ifnull_r dX6_await_7 ?_
    have h9 : az_b Z 10 p < az_b Z 9 p := by
      by_cases q : az_b Z 10 p < az_b Z 9 p
      · exact q
      · rw [if_neg q] at e4; rw [e4] at hz7; cases hz7
    rw [if_pos h9] at e4
    subst e4
    obtain rfl := Option.some.inj hz7
    obtain ⟨-, hmz, hmt⟩ := hx.mt hp h9
    refine pm_aload_n dX6_await_10 rfl ?_
    refine pm_iload_n dX6_await_11 rfl ?_
    refine pm_p_Proc_at (by (try simp only [pm_k_si, pm_k_sj, pm_k_sp, pm_k_sx, pm_k_sz, pm_k_sr, pm_k_sy]); assumption) pm_f_X6_175 dX6_await_12 ?_
    refine pm_goto (tgt := 27) dX6_await_15 (by decide) ?_
    refine pm_iconst (v := (-1)) dX6_await_27 (by decide) ?_
    subst hQ9
    refine pm_iret dX6_await_28 ?_
    first
    | exact ⟨rfl, by rw [if_pos h9]; exact hx.lift (h.b (f := 57) (i := 2) (c := 0) hn hp rfl) rfl (fun q => z_b_bne (by decide))⟩
    | exact ⟨rfl, by rw [if_neg h9, h24]; exact hx.lift ((((h.b (f := 56) (i := 1) (c := 0) (v := 1) hn hp rfl).b (f := 58) (i := 3) (c := 0) (v := a) hn hp rfl).b (f := 59) (i := 4) (c := 0) (v := a) hn hp rfl).dl (p := p) (r := none) hn hp) rfl (fun q => by rw [z_b_e, z_b_bne (by decide), z_b_bne (by decide), z_b_bne (by decide)])⟩
  | none =>
    refine pm_ifnull_n (tgt := 18) dX6_await_7 (by decide) ?_
    have h9 : ¬ az_b Z 10 p < az_b Z 9 p := fun q => by rw [if_pos q] at e4; rw [e4] at hz7; cases hz7
    refine pm_aload_n dX6_await_18 rfl ?_
    refine pm_iload_n dX6_await_19 rfl ?_
    refine pm_iload_n dX6_await_20 rfl ?_
    refine pm_ldc2 pm_cl_X6_178 dX6_await_21 ?_
    refine pm_vv (c_X1_beginToWait G l bs (Y.1 (pq p 0)) (nI a) (nI a) _ _ pk0) pm_y_X1_beginToWait pm_v_X1_beginToWait pm_m_X6_357 (c := 1) (r := (RX1, TX1, 16)) rfl rfl (by (try simp only [pm_k_si, pm_k_sj, pm_k_sp, pm_k_sx, pm_k_sz, pm_k_sr, pm_k_sy]); assumption) dX6_await_24 rfl rfl (by decide) (Nat.le_of_ble_eq_true rfl) (fun S24 h24 => ?_)
    refine pm_iconst (v := (-1)) dX6_await_27 (by decide) ?_
    subst hQ9
    refine pm_iret dX6_await_28 ?_
    first
    | exact ⟨rfl, by rw [if_pos h9]; exact hx.lift (h.b (f := 57) (i := 2) (c := 0) hn hp rfl) rfl (fun q => z_b_bne (by decide))⟩
    | exact ⟨rfl, by rw [if_neg h9, h24]; exact hx.lift ((((h.b (f := 56) (i := 1) (c := 0) (v := 1) hn hp rfl).b (f := 58) (i := 3) (c := 0) (v := a) hn hp rfl).b (f := 59) (i := 4) (c := 0) (v := a) hn hp rfl).dl (p := p) (r := none) hn hp) rfl (fun q => by rw [z_b_e, z_b_bne (by decide), z_b_bne (by decide), z_b_bne (by decide)])⟩

set_option maxHeartbeats 4000000 in
set_option maxRecDepth 100000 in
theorem c_X6_awaitFor (G : pm_G) (l : Launch) (bs : Nat) (Z : az) (Y : pm_Y) (E : pm_S) (s : Nat) (p a b t r : Nat) (w : List Int32) (S : pm_S) (hx : pm_CX Z S Y E) (hI : zI s Z) (hp : p < az_a Z 0) (ht : pm_tm S t r w) (hl : 2 ≤ w.length) : pm_M G l bs yX6_awaitFor cX6_awaitFor 5 (some .int) 2 0 0 [.ref (Y.1 0), .ref (Y.1 (pq p 0)), .int (nI a), .ref t, .int (nI b)] S (pm_qi (fun x S2 => (¬ (az_b Z 10 p < az_b Z 9 p) ∧ zKind w ≠ 0 ∧ x = 4 ∧ S2 = S) ∨ ((az_b Z 10 p < az_b Z 9 p ∨ zKind w = 0) ∧ x = -1 ∧ pm_CX (if az_b Z 10 p < az_b Z 9 p then zAt Z p a else if zVal w < 1 then zAt (zs_b Z 10 p 0) p b else zs_e (zs_b (zs_b (zs_b Z 1 p 1) 3 p a) 4 p b) 1 p (some (az_a Z 6 + (zVal w).toInt.toNat))) S2 Y E))) := by
  have hn := hI.1
  have hsm := hI.sm
  obtain ⟨h, hmk⟩ := id hx
  have hA := h.2.2.2.2.2.1
  obtain ⟨⟨hk0, hr0, hr1, hr2, hr3, hr4, hr5, hr6, hr7⟩, ⟨hk1, hl1⟩, ⟨hk2, hl2⟩, ⟨hk3, hl3⟩, ⟨hk4, hl4⟩, hWt, hSh, hLt, hCs⟩ := id h.2.2.1
  obtain ⟨kW, rW1, rW2, rW3, kW1, nW1, kW2, nW2, kW3, nW3, -⟩ := id hWt
  have hB := h.2.2.2.2.1 p hp
  obtain ⟨⟨pk0, pr1, pr2, pr4, pr6, ppid⟩, ⟨pk1, pn1, pz1⟩, hmb, hts⟩ := id (h.2.2.2.1 p hp)
  refine pm_Mi (L := [.ref (Y.1 0), .ref (Y.1 (pq p 0)), .int (nI a), .ref t, .int (nI b)]) (by decide +kernel) rfl (pm_en_1 rfl (pm_en_1 rfl (pm_en_1 rfl (pm_en_1 rfl (pm_en_1 rfl (pm_en_0 rfl)))))) ?_
  generalize hQ9 : pm_xi (fun x S2 => (¬ (az_b Z 10 p < az_b Z 9 p) ∧ zKind w ≠ 0 ∧ x = 4 ∧ S2 = S) ∨ ((az_b Z 10 p < az_b Z 9 p ∨ zKind w = 0) ∧ x = -1 ∧ pm_CX (if az_b Z 10 p < az_b Z 9 p then zAt Z p a else if zVal w < 1 then zAt (zs_b Z 10 p 0) p b else zs_e (zs_b (zs_b (zs_b Z 1 p 1) 3 p a) 4 p b) 1 p (some (az_a Z 6 + (zVal w).toInt.toNat))) S2 Y E)) = Q9
  refine pm_aload_n dX6_awaitFor_0 rfl ?_
  refine pm_g_Proc_box (by (try simp only [pm_k_si, pm_k_sj, pm_k_sp, pm_k_sx, pm_k_sz, pm_k_sr, pm_k_sy]); assumption) pm_f_X6_114 (by (try simp only [pm_p_si, pm_p_sj, pm_p_sx, pm_p_sz, pm_p_sr, pm_p_sy]); assumption) dX6_awaitFor_1 ?_
  refine pm_vr (c_X0_atPointer G l bs (Y.1 (pq p 4)) (Y.1 (pq p 5)) (az_b Z 9 p) (az_b Z 10 p) S hmb (hB 1 4 9 rfl) (hI.b hp 9) (hB 2 4 10 rfl) (hsm p hp 10 (by decide))) pm_y_X0_atPointer pm_v_X0_atPointer pm_m_X6_348 (c := 0) (r := (RX0, TX0, 3)) rfl rfl hmb.1 dX6_awaitFor_4 rfl rfl (by decide) (Nat.le_of_ble_eq_true rfl) (fun x4 S4 h4 => ?_)
  obtain ⟨e4, rfl⟩ := h4
  have e4 : x4 = if az_b Z 10 p < az_b Z 9 p then some (Y.1 (pq p (30 + Y.2.2 p (az_b Z 10 p)))) else none := by
    rw [e4]
    by_cases q : az_b Z 10 p < az_b Z 9 p
    · rw [if_pos q, if_pos q, (hx.mt hp q).2.1]
    · rw [if_neg q, if_neg q]
  cases hz7 : x4 with
  | some t7 =>
    refine pm_ifnull_r dX6_awaitFor_7 ?_
    have h9 : az_b Z 10 p < az_b Z 9 p := by
      by_cases q : az_b Z 10 p < az_b Z 9 p
      · exact q
      · rw [if_neg q] at e4; rw [e4] at hz7; cases hz7
    rw [if_pos h9] at e4
    subst e4
    obtain rfl := Option.some.inj hz7
    obtain ⟨-, hmz, hmt⟩ := hx.mt hp h9
    refine pm_aload_n dX6_awaitFor_10 rfl ?_
    refine pm_iload_n dX6_awaitFor_11 rfl ?_
    refine pm_p_Proc_at (by (try simp only [pm_k_si, pm_k_sj, pm_k_sp, pm_k_sx, pm_k_sz, pm_k_sr, pm_k_sy]); assumption) pm_f_X6_175 dX6_awaitFor_12 ?_
    refine pm_iconst (v := (-1)) dX6_awaitFor_15 (by decide) ?_
    subst hQ9
    refine pm_iret dX6_awaitFor_16 ?_
    exact Or.inr ⟨Or.inl h9, rfl, by rw [if_pos h9]; exact hx.lift (h.b (f := 57) (i := 2) (c := 0) hn hp rfl) rfl (fun q => z_b_bne (by decide))⟩
  | none =>
    refine pm_ifnull_n (tgt := 17) dX6_awaitFor_7 (by decide) ?_
    have h9 : ¬ az_b Z 10 p < az_b Z 9 p := fun q => by rw [if_pos q] at e4; rw [e4] at hz7; cases hz7
    refine pm_aload_n dX6_awaitFor_17 rfl ?_
    refine pm_vi (c_X3_kind G l bs t _ w _ ht (by omega)) pm_y_X3_kind pm_v_X3_kind pm_m_X6_167 (c := 3) (r := (RX3, TX3, 2)) rfl rfl ht.1.1 dX6_awaitFor_18 rfl rfl (by decide) (Nat.le_of_ble_eq_true rfl) (fun x18 S18 h18 => ?_)
    obtain ⟨e18, rfl⟩ := h18
    replace e18 := kd_of e18
    subst e18
    refine pm_if_eq (tgt := 26) dX6_awaitFor_21 (by decide) (fun h21 => ?_) (fun h21 => ?_)
    · skip
      refine pm_aload_n dX6_awaitFor_26 rfl ?_
      refine pm_vi (c_X3_value G l bs t _ w _ ht (by omega)) pm_y_X3_value pm_v_X3_value pm_m_X6_170 (c := 3) (r := (RX3, TX3, 2)) rfl rfl ht.1.1 dX6_awaitFor_27 rfl rfl (by decide) (Nat.le_of_ble_eq_true rfl) (fun x27 S27 h27 => ?_)
      obtain ⟨e27, rfl⟩ := h27
      replace e27 := val_of e27
      subst e27
      refine pm_iconst (v := 1) dX6_awaitFor_30 (by decide) ?_
      refine pm_icmp_ge (tgt := 50) dX6_awaitFor_31 (by decide) (fun h31 => ?_) (fun h31 => ?_)
      · skip
        have h8 : ¬ zVal w < 1 := fun z => Int32.not_le.mpr z h31
        refine pm_aload_n dX6_awaitFor_50 rfl ?_
        refine pm_iload_n dX6_awaitFor_51 rfl ?_
        refine pm_iload dX6_awaitFor_52 rfl ?_
        refine pm_aload_n dX6_awaitFor_54 rfl ?_
        refine pm_g_Mill_time (by (try simp only [pm_k_si, pm_k_sj, pm_k_sp, pm_k_sx, pm_k_sz, pm_k_sr, pm_k_sy]); assumption) pm_f_X6_68 dX6_awaitFor_55 ?_
        refine pm_i2l dX6_awaitFor_58 ?_
        refine pm_aload_n dX6_awaitFor_59 rfl ?_
        rw [hA 314 0 6 rfl, nI_l (by have := hI.2.2.2.2.2.2.2.2.2.2.2.2.2; omega)]
        refine pm_vi (c_X3_value G l bs t _ w _ ht (by omega)) pm_y_X3_value pm_v_X3_value pm_m_X6_170 (c := 3) (r := (RX3, TX3, 2)) rfl rfl ht.1.1 dX6_awaitFor_60 rfl rfl (by decide) (Nat.le_of_ble_eq_true rfl) (fun x60 S60 h60 => ?_)
        obtain ⟨e60, rfl⟩ := h60
        replace e60 := val_of e60
        subst e60
        refine pm_i2l dX6_awaitFor_63 ?_
        refine pm_ladd dX6_awaitFor_64 ?_
        obtain ⟨k9, hk9, ek9⟩ := nI_of (x := zVal w) (fun z => h8 (by rw [pm_i1]; rw [pm_lt0] at z; omega))
        rw [ek9, nI_l hk9, lN_add]
        refine pm_vv (c_X1_beginToWait G l bs (Y.1 (pq p 0)) (nI a) (nI b) _ _ pk0) pm_y_X1_beginToWait pm_v_X1_beginToWait pm_m_X6_357 (c := 1) (r := (RX1, TX1, 16)) rfl rfl (by (try simp only [pm_k_si, pm_k_sj, pm_k_sp, pm_k_sx, pm_k_sz, pm_k_sr, pm_k_sy]); assumption) dX6_awaitFor_65 rfl rfl (by decide) (Nat.le_of_ble_eq_true rfl) (fun S65 h65 => ?_)
        refine pm_iconst (v := (-1)) dX6_awaitFor_68 (by decide) ?_
        subst hQ9
        refine pm_iret dX6_awaitFor_69 ?_
        first
        | exact Or.inr ⟨Or.inr h21, rfl, by rw [if_neg h9, if_pos h8]; exact hx.lift ((h.b (f := 2) (i := 10) (c := 4) (v := 0) hn hp rfl).b (f := 57) (i := 2) (c := 0) (v := b) hn hp rfl) rfl (fun q => by unfold zAt; rw [z_b_bne (by decide), z_b_bne (by decide)])⟩
        | exact Or.inr ⟨Or.inr h21, rfl, by rw [if_neg h9, if_neg h8, h65, ek9, nI_toInt hk9, Int.toNat_natCast]; exact hx.lift ((((h.b (f := 56) (i := 1) (c := 0) (v := 1) hn hp rfl).b (f := 58) (i := 3) (c := 0) (v := a) hn hp rfl).b (f := 59) (i := 4) (c := 0) (v := b) hn hp rfl).dl (p := p) (r := some (az_a Z 6 + k9)) hn hp) rfl (fun q => by rw [z_b_e, z_b_bne (by decide), z_b_bne (by decide), z_b_bne (by decide)])⟩
      · skip
        have h8 : zVal w < 1 := Int32.not_le.mp h31
        refine pm_aload_n dX6_awaitFor_34 rfl ?_
        refine pm_g_Proc_box (by (try simp only [pm_k_si, pm_k_sj, pm_k_sp, pm_k_sx, pm_k_sz, pm_k_sr, pm_k_sy]); assumption) pm_f_X6_114 (by (try simp only [pm_p_si, pm_p_sj, pm_p_sx, pm_p_sz, pm_p_sr, pm_p_sy]); assumption) dX6_awaitFor_35 ?_
        refine pm_vv (c_X0_pointToFirst G l bs (Y.1 (pq p 4)) _ hmb.1) pm_y_X0_pointToFirst pm_v_X0_pointToFirst pm_m_X6_118 (c := 0) (r := (RX0, TX0, 3)) rfl rfl hmb.1 dX6_awaitFor_38 rfl rfl (by decide) (Nat.le_of_ble_eq_true rfl) (fun S38 h38 => ?_)
        subst h38
        refine pm_aload_n dX6_awaitFor_41 rfl ?_
        refine pm_iload dX6_awaitFor_42 rfl ?_
        refine pm_p_Proc_at (by (try simp only [pm_k_si, pm_k_sj, pm_k_sp, pm_k_sx, pm_k_sz, pm_k_sr, pm_k_sy]); assumption) pm_f_X6_175 dX6_awaitFor_44 ?_
        refine pm_goto (tgt := 68) dX6_awaitFor_47 (by decide) ?_
        refine pm_iconst (v := (-1)) dX6_awaitFor_68 (by decide) ?_
        subst hQ9
        refine pm_iret dX6_awaitFor_69 ?_
        first
        | exact Or.inr ⟨Or.inr h21, rfl, by rw [if_neg h9, if_pos h8]; exact hx.lift ((h.b (f := 2) (i := 10) (c := 4) (v := 0) hn hp rfl).b (f := 57) (i := 2) (c := 0) (v := b) hn hp rfl) rfl (fun q => by unfold zAt; rw [z_b_bne (by decide), z_b_bne (by decide)])⟩
        | exact Or.inr ⟨Or.inr h21, rfl, by rw [if_neg h9, if_neg h8, h65, ek9, nI_toInt hk9, Int.toNat_natCast]; exact hx.lift ((((h.b (f := 56) (i := 1) (c := 0) (v := 1) hn hp rfl).b (f := 58) (i := 3) (c := 0) (v := a) hn hp rfl).b (f := 59) (i := 4) (c := 0) (v := b) hn hp rfl).dl (p := p) (r := some (az_a Z 6 + k9)) hn hp) rfl (fun q => by rw [z_b_e, z_b_bne (by decide), z_b_bne (by decide), z_b_bne (by decide)])⟩
    · skip
      refine pm_iconst (v := 4) dX6_awaitFor_24 (by decide) ?_
      subst hQ9
      refine pm_iret dX6_awaitFor_25 ?_
      exact Or.inl ⟨h9, h21, rfl, rfl⟩

