/-! the reference: the spreading of deaths -/
theorem zw_b (Z : az) (V : List (Nat × Nat × Nat)) (j q v : Nat) : zs_b (zs_w Z V) j q v = zs_w (zs_b Z j q v) V := az_ext rfl rfl rfl rfl rfl rfl rfl rfl
theorem zw_t (Z : az) (V : List (Nat × Nat × Nat)) (j q k : Nat) (w : List Int32) : zs_t (zs_w Z V) j q k w = zs_w (zs_t Z j q k w) V := az_ext rfl rfl rfl rfl rfl rfl rfl rfl
theorem zw_a (Z : az) (V : List (Nat × Nat × Nat)) (j v : Nat) : zs_a (zs_w Z V) j v = zs_w (zs_a Z j v) V := az_ext rfl rfl rfl rfl rfl rfl rfl rfl
theorem zw_e (Z : az) (V : List (Nat × Nat × Nat)) (j q : Nat) (r : Option Nat) : zs_e (zs_w Z V) j q r = zs_w (zs_e Z j q r) V := az_ext rfl rfl rfl rfl rfl rfl rfl rfl
theorem zw_cm (Z : az) (V : List (Nat × Nat × Nat)) (p : Nat) (w : List Int32) : zCm (zs_w Z V) p w = zs_w (zCm Z p w) V := by
  unfold zCm
  rw [z_b_w, z_b_w, z_a_w, zw_t, zw_b, zw_b, zw_a]
theorem zw_turn (Z : az) (V : List (Nat × Nat × Nat)) (p : Nat) : zTurn (zs_w Z V) p = zs_w (zTurn Z p) V := by
  unfold zTurn
  rw [z_a_w, zw_b, zw_a]
theorem zw_ready (Z : az) (V : List (Nat × Nat × Nat)) (p a : Nat) : zReady (zs_w Z V) p a = zs_w (zReady Z p a) V := by
  unfold zReady
  rw [zw_b, zw_b, zw_e, zw_turn]
theorem zw_comes (Z : az) (V : List (Nat × Nat × Nat)) (p : Nat) (w : List Int32) : zComes (zs_w Z V) p w = zs_w (zComes Z p w) V := by
  rw [zComes_eq, zComes_eq, z_b_w, z_b_w, z_b_w, zw_cm, zw_ready]
  split
  · split
    · rfl
    · rfl
  · rfl
theorem zd_comes {Z : az} {p d : Nat} {w : List Int32} (h : az_b Z 1 d = 2) : az_b (zComes Z p w) 1 d = 2 := by
  rw [zComes_eq]
  split
  · rename_i g
    have e : az_b (zCm Z p w) 1 d = az_b Z 1 d := by unfold zCm; rw [z_b_a, z_b_bne (by decide), z_b_bne (by decide), z_b_t]
    split
    · unfold zReady zTurn
      rw [z_b_a, z_b_bne (by decide), z_b_e, z_b_bne (by decide), z_b_b, if_neg (fun z => g.1 (by rw [← z.2]; exact h)), e, h]
    · rw [e, h]
  · exact h
theorem zDies_1 (Z : az) (p : Nat) (w : List Int32) (q : Nat) : az_b (zDies Z p w) 1 q = if q = p then 2 else az_b Z 1 q := by
  have e : ∀ Z1 : az, az_b (zs_b (zs_b (zs_b (zs_b (zs_b (zs_t Z1 1 p 0 w) 1 p 2) 9 p 0) 10 p 0) 7 p 0) 8 p 0) 1 q = if q = p then 2 else az_b Z1 1 q := fun Z1 => by
    rw [z_b_bne (by decide), z_b_bne (by decide), z_b_bne (by decide), z_b_bne (by decide), z_b_b, z_b_t]
    by_cases h : q = p
    · rw [if_pos ⟨rfl, h⟩, if_pos h]
    · rw [if_neg (fun z => h z.2), if_neg h]
  unfold zDies
  dsimp only
  rw [z_b_a, z_b_c, z_b_w]
  cases az_e Z 0 p with
  | none => exact e Z
  | some n => exact e (zs_e (zs_e Z 2 n none) 0 p none)
theorem zd_dies {Z : az} {p d : Nat} {w : List Int32} (h : az_b Z 1 d = 2) : az_b (zDies Z p w) 1 d = 2 := by
  rw [zDies_1]
  split
  · rfl
  · exact h
theorem zd_exit {Z : az} {q p d : Nat} {w : List Int32} {byW : Bool} (h : az_b Z 1 d = 2) : az_b (zExit Z q p w byW) 1 d = 2 := by
  unfold zExit
  split
  · exact h
  · split
    · exact zd_dies h
    · split
      · exact zd_comes h
      · split
        · exact h
        · exact zd_dies h
theorem zTellW_w : ∀ (l : List (Nat × Nat × Nat)) (Z : az) (p : Nat), az_w (zTellW l Z p) = az_w Z
  | [], _, _ => rfl
  | t :: l, Z, p => by
    unfold zTellW
    rw [zTellW_w l]
    split
    · exact zComes_w _ _ _
    · rfl
theorem zDies_a2 (Z : az) (p : Nat) (w : List Int32) : az_a (zDies Z p w) 2 = az_a Z 2 := by rw [zDies_a, if_neg (by decide)]
theorem zExit_a2 (Z : az) (q p : Nat) (w : List Int32) (c : Bool) : az_a (zExit Z q p w c) 2 = az_a Z 2 := by
  unfold zExit
  split
  · rfl
  · split
    · exact zDies_a2 _ _ _
    · split
      · exact zComes_a _ _ _ 2 (by decide) (by decide)
      · split
        · rfl
        · exact zDies_a2 _ _ _
theorem zTellL_a2 : ∀ (k : Nat) (Z : az) (p q : Nat), az_a (zTellL k Z p q) 2 = az_a Z 2
  | 0, _, _, _ => rfl
  | k + 1, Z, p, q => by
    unfold zTellL
    rw [zTellL_a2 k]
    split
    · rw [zExit_a2]; rfl
    · rfl
theorem zTellW_a2 : ∀ (l : List (Nat × Nat × Nat)) (Z : az) (p : Nat), az_a (zTellW l Z p) 2 = az_a Z 2
  | [], _, _ => rfl
  | t :: l, Z, p => by
    unfold zTellW
    rw [zTellW_a2 l]
    split
    · exact zComes_a _ _ _ 2 (by decide) (by decide)
    · rfl
theorem zTell_a2 (Z : az) (p : Nat) : az_a (zTell Z p) 2 = az_a Z 2 := by
  unfold zTell
  dsimp only
  rw [z_a_w, zTellW_a2, zTellL_a2]
/-- after the spreading no death waits -/
theorem zSpread_all {s : Nat} : ∀ (k : Nat) (Z : az), zI s Z → 60 ≤ az_a Z 2 + k → az_a (zSpread k Z) 2 = az_a (zSpread k Z) 1
  | 0, Z, hI, h => by
    have h1 := hI.2.2.2.2.1.1
    have h2 := hI.2.2.2.2.1.2.1
    have h3 := zCnt_le Z 2 (az_a Z 0)
    have h4 := hI.1
    show az_a Z 2 = az_a Z 1
    omega
  | k + 1, Z, hI, h => by
    unfold zSpread
    split
    · rename_i g
      have hd := (hI.2.2.2.2.1.2.2 _ g).1
      have hI2 := (hI.a2 g).tell (p := az_c Z 3 0 (az_a Z 2)) hd
      refine zSpread_all k _ hI2.1 ?_
      rw [zTell_a2, z_a_a, if_pos rfl]
      omega
    · have h2 := hI.2.2.2.2.1.2.1
      omega
set_option maxHeartbeats 4000000 in
set_option maxRecDepth 100000 in
theorem spreadB (G : pm_G) (l : Launch) (bs : Nat) (A : Nat → Nat) (E : pm_S) (b s i d : Nat) (F : az) (Q9 : Instr → List Value → pm_S → Prop) (v4 v5 : Value) : ∀ (m q : Nat) (Z : az) (M : pm_N) (S : pm_S), pm_MX M S A E → mR b Z M → zI s Z → q + m = az_a Z 0 → d < az_a Z 0 → az_b Z 1 d = 2 → zTellL m Z d q = F → (∀ (M2 : pm_N) (S2 : pm_S) (q2 : Nat), pm_MX M2 S2 A E → mR b F M2 → az_b F 1 d = 2 → pm_W G l bs yX7_spread.cls cX7_spread 6 false 4 0 0 Q9 69 [.ref (A 50), .int (nI i), .int (nI d), .int (nI q2), v4, v5] [] S2) → pm_W G l bs yX7_spread.cls cX7_spread 6 false 4 0 0 Q9 19 [.ref (A 50), .int (nI i), .int (nI d), .int (nI q), v4, v5] [] S := by
  intro m
  induction m using Nat.strongRecOn with
  | ind m ih =>
  intro q Z M S hm hr hI hqm hd h2 hF hk
  have hn := hI.1
  have hsm := hI.sm
  refine pm_iload_n dX7_spread_19 rfl ?_
  refine pm_aload_n dX7_spread_20 rfl ?_
  refine pm_g_Model_count hm.1 pm_f_X7_121 dX7_spread_21 ?_
  rw [hm.f (g := 375) (f := 25) rfl]
  rw [hr.A (i := 0) rfl]
  refine pm_icmp_ge (tgt := 69) dX7_spread_24 (by decide) (fun h24 => ?_) (fun h24 => ?_)
  · skip
    have h8 : q = az_a Z 0 := by have := (pm_nle (a := az_a Z 0) (b := q) (by omega) (by omega)).mp h24; omega
    obtain rfl : m = 0 := by omega
    have hE : Z = F := hF
    exact hk M S q hm (by rw [← hE]; exact hr) (by rw [← hE]; exact h2)
  · skip
    have h8 : q < az_a Z 0 := by rcases Nat.lt_or_ge q (az_a Z 0) with y | y; exact y; exact absurd ((pm_nle (a := az_a Z 0) (b := q) (by omega) (by omega)).mpr y) h24
    obtain ⟨m, rfl⟩ : ∃ m2, m = m2 + 1 := ⟨m - 1, by omega⟩
    rw [zTellL] at hF
    refine pm_aload_n dX7_spread_27 rfl ?_
    refine pm_g_Model_linked hm.1 pm_f_X7_84 (hm.2.1 24 (by decide)).1 dX7_spread_28 ?_
    refine pm_bipush (v := 60) dX7_spread_31 (by decide) ?_
    refine pm_iload_n dX7_spread_33 rfl ?_
    refine pm_imul dX7_spread_34 ?_
    refine pm_iload_n dX7_spread_35 rfl ?_
    refine pm_iadd dX7_spread_36 ?_
    refine mm_baload (n := _) hm (by decide) (by rw [show (60 : Int32) = nI 60 from rfl, pk_mul, nI_add]) (by show _ < 3600; omega) dX7_spread_37 ?_
    rw [hr.2.2.2.2.2.2.1 d q (by omega) (by omega)]
    refine pm_if_ne (tgt := 44) dX7_spread_38 (by decide) (fun h38 => ?_) (fun h38 => ?_)
    · skip
      have g1 : az_f Z d q = true := by cases y : az_f Z d q; exact absurd (by rw [y]; rfl) h38; rfl
      rw [if_pos g1] at hF
      have hdq := (hI.2.2.2.2.2.2.1 d q g1).2.2.1
      refine pm_aload_n dX7_spread_44 rfl ?_
      refine pm_iload_n dX7_spread_45 rfl ?_
      refine pm_iload_n dX7_spread_46 rfl ?_
      refine pm_iconst (v := 0) dX7_spread_47 (by decide) ?_
      refine pm_vv (c_X7_link G l bs A E M d q 0 _ hm (by omega) (by omega) (Or.inl rfl)) pm_y_X7_link pm_v_X7_link pm_m_X7_160 (c := 7) (r := (RX7, TX7, 41)) rfl rfl hm.1 dX7_spread_48 rfl rfl (by decide) (Nat.le_of_ble_eq_true rfl) (fun S48 h48 => ?_)
      have hm48 := h48
      have hr48 := hr.link (p := d) (q := q) (v := false) (x := 0) (by omega) (by omega) rfl
      generalize mx (mx M 24 (60 * d + q) 0) 24 (60 * q + d) 0 = M48 at hm48 hr48
      have hI48 := hI.lk (v := false) hd h8 hdq
      have hs48 := (hr48.2.2.2.2.2.2.2.2.2.2.1 d hd).2.2 h2
      refine pm_aload_n dX7_spread_51 rfl ?_
      refine pm_iload_n dX7_spread_52 rfl ?_
      refine pm_iload_n dX7_spread_53 rfl ?_
      refine pm_sipush (v := 2880) dX7_spread_54 (by decide) ?_
      refine pm_iload_n dX7_spread_57 rfl ?_
      refine pm_iadd dX7_spread_58 ?_
      refine pm_iconst (v := 0) dX7_spread_59 (by decide) ?_
      rw [show (2880 : Int32) + nI d = nI (2880 + d) from nI_add _ _]
      refine pm_vv (c_X7_exit G l bs A E M48 b (zLink Z d q false) s q d (2880 + d) (az_t Z 1 d 0) 0 false _ hm48 hr48 hI48 h8 hd (by omega) (by omega) hs48 (hI48.rs hd) rfl) pm_y_X7_exit pm_v_X7_exit pm_m_X7_164 (c := 7) (r := (RX7, TX7, 41)) rfl rfl hm48.1 dX7_spread_60 rfl rfl (by decide) (Nat.le_of_ble_eq_true rfl) (fun S60 h60 => ?_)
      obtain ⟨M60, hm60, hr60⟩ := h60
      have hI60 := hI48.exit (b := false) h8 hd (hI48.rs hd)
      have l60 := zLe_exit (Z := zLink Z d q false) (q := q) (p := d) (w := az_t Z 1 d 0) (b := false) h8
      have d60 : az_b (zExit (zLink Z d q false) q d (az_t Z 1 d 0) false) 1 d = 2 := zd_exit h2
      refine pm_iinc dX7_spread_63 rfl rfl (by decide) ?_
      dsimp only [List.set]
      refine pm_goto (tgt := 19) dX7_spread_66 (by decide) ?_
      rw [show nI q + Int32.ofInt 1 = nI (q + 1) from nI_1 _]
      first
      | exact ih m (by omega) (q + 1) _ M60 _ hm60 hr60 hI60 (by rw [l60.1]; show _ = az_a Z 0; omega) (by rw [l60.1]; exact hd) d60 hF hk
      | exact ih m (by omega) (q + 1) Z M _ hm hr hI (by omega) hd h2 hF hk
    · skip
      have g1 : ¬ az_f Z d q = true := fun y => by rw [if_pos y] at h38; cases h38
      rw [if_neg g1] at hF
      refine pm_goto (tgt := 63) dX7_spread_41 (by decide) ?_
      refine pm_iinc dX7_spread_63 rfl rfl (by decide) ?_
      dsimp only [List.set]
      refine pm_goto (tgt := 19) dX7_spread_66 (by decide) ?_
      rw [show nI q + Int32.ofInt 1 = nI (q + 1) from nI_1 _]
      first
      | exact ih m (by omega) (q + 1) _ M60 _ hm60 hr60 hI60 (by rw [l60.1]; show _ = az_a Z 0; omega) (by rw [l60.1]; exact hd) d60 hF hk
      | exact ih m (by omega) (q + 1) Z M _ hm hr hI (by omega) hd h2 hF hk
set_option maxHeartbeats 4000000 in
set_option maxRecDepth 100000 in
theorem spreadC (G : pm_G) (l : Launch) (bs : Nat) (A : Nat → Nat) (E : pm_S) (b s i d : Nat) (F : az) (Q9 : Instr → List Value → pm_S → Prop) (K : List (Nat × Nat × Nat)) : ∀ (m : Nat) (kept rest : List (Nat × Nat × Nat)) (Z : az) (M : pm_N) (S : pm_S) (v4 v5 : Value), rest.length = m → pm_MX M S A E → mR b (zs_w Z (kept ++ rest)) M → zI s Z → kept.length + rest.length ≤ 200 → (∀ t, t ∈ rest → t.2.1 < az_a Z 0 ∧ t.2.2 < az_a Z 0) → (∀ t, t ∈ kept → t.2.1 < az_a Z 0 ∧ t.2.2 < az_a Z 0) → d < az_a Z 0 → az_b Z 1 d = 2 → zTellW rest Z d = F → kept ++ rest.filter (fun t : Nat × Nat × Nat => decide (t.2.2 ≠ d)) = K → (∀ (M2 : pm_N) (S2 : pm_S) (v3 v4 v5 : Value), pm_MX M2 S2 A E → mR b (zs_w F K) M2 → pm_W G l bs yX7_spread.cls cX7_spread 6 false 4 0 0 Q9 133 [.ref (A 50), .int (nI i), .int (nI d), v3, v4, v5] [] S2) → pm_W G l bs yX7_spread.cls cX7_spread 6 false 4 0 0 Q9 71 [.ref (A 50), .int (nI i), .int (nI d), .int (nI kept.length), v4, v5] [] S := by
  intro m
  induction m using Nat.strongRecOn with
  | ind m ih =>
  intro kept rest Z M S v4 v5 hrl hm hr hI hl hw1 hw2 hd h2 hF hK hk
  have hn := hI.1
  have hsm := hI.sm
  have hv : mV (kept ++ rest) M := hr.2.2.2.2.2.2.2.1
  refine pm_iload_n dX7_spread_71 rfl ?_
  refine pm_aload_n dX7_spread_72 rfl ?_
  refine pm_g_Model_watchCount hm.1 pm_f_X7_151 dX7_spread_73 ?_
  rw [hm.f (g := 380) (f := 30) rfl]
  rw [hv.1, List.length_append]
  refine pm_icmp_ge (tgt := 133) dX7_spread_76 (by decide) (fun h76 => ?_) (fun h76 => ?_)
  · skip
    have h8 : kept.length = kept.length + rest.length := by have := (pm_nle (a := kept.length + rest.length) (b := kept.length) (by omega) (by omega)).mp h76; omega
    obtain rfl : rest = [] := List.eq_nil_of_length_eq_zero (by omega)
    have hE : Z = F := hF
    rw [List.filter_nil, List.append_nil] at hK
    rw [List.append_nil] at hr
    exact hk M S _ _ _ hm (by rw [← hE, ← hK]; exact hr)
  · skip
    have h8 : kept.length < kept.length + rest.length := by rcases Nat.lt_or_ge kept.length (kept.length + rest.length) with y | y; exact y; exact absurd ((pm_nle (a := kept.length + rest.length) (b := kept.length) (by omega) (by omega)).mpr y) h76
    obtain ⟨t, rest, rfl⟩ : ∃ t r2, rest = t :: r2 := by
      cases rest with
      | nil => exact absurd h8 (by simp)
      | cons t r => exact ⟨t, r, rfl⟩
    rw [List.length_cons] at hrl hl
    have ht : (kept ++ t :: rest)[kept.length]? = some t := by rw [List.getElem?_append_right (Nat.le_refl _), Nat.sub_self]; rfl
    have hu := hv.2 _ t ht
    have hwt := hw1 t (List.mem_cons_self ..)
    rw [zTellW] at hF
    refine pm_aload_n dX7_spread_79 rfl ?_
    refine pm_g_Model_watched hm.1 pm_f_X7_90 (hm.2.1 28 (by decide)).1 dX7_spread_80 ?_
    refine pm_iload_n dX7_spread_83 rfl ?_
    refine mm_iaload (n := _) hm (by decide) rfl (by show _ < 200; omega) dX7_spread_84 ?_
    refine pm_iload_n dX7_spread_85 rfl ?_
    rw [hu.2.1]
    refine pm_icmp_eq (tgt := 95) dX7_spread_86 (by decide) (fun h86 => ?_) (fun h86 => ?_)
    · skip
      have g1 : t.2.2 = d := (nI_eq (by omega) (by omega)).mp h86
      rw [if_pos g1, zDown] at hF
      refine pm_aload_n dX7_spread_95 rfl ?_
      refine pm_g_Model_watchers hm.1 pm_f_X7_87 (hm.2.1 27 (by decide)).1 dX7_spread_96 ?_
      refine pm_iload_n dX7_spread_99 rfl ?_
      refine mm_iaload (n := _) hm (by decide) rfl (by show _ < 200; omega) dX7_spread_100 ?_
      rw [hu.1]
      refine pm_istore dX7_spread_101 (by decide) ?_
      dsimp only [List.set]
      refine pm_aload_n dX7_spread_103 rfl ?_
      refine pm_g_Model_numbers hm.1 pm_f_X7_93 (hm.2.1 29 (by decide)).1 dX7_spread_104 ?_
      refine pm_iload_n dX7_spread_107 rfl ?_
      refine mm_iaload (n := _) hm (by decide) rfl (by show _ < 200; omega) dX7_spread_108 ?_
      rw [hu.2.2]
      refine pm_istore dX7_spread_109 (by decide) ?_
      dsimp only [List.set]
      refine pm_aload_n dX7_spread_111 rfl ?_
      refine pm_iload_n dX7_spread_112 rfl ?_
      refine pm_vv (c_X7_dropWatch G l bs A E M (kept ++ t :: rest) kept.length _ hm hv (by rw [List.length_append, List.length_cons]; omega) (by rw [List.length_append, List.length_cons]; omega)) pm_y_X7_dropWatch pm_v_X7_dropWatch pm_m_X7_154 (c := 7) (r := (RX7, TX7, 41)) rfl rfl hm.1 dX7_spread_113 rfl rfl (by decide) (Nat.le_of_ble_eq_true rfl) (fun S113 h113 => ?_)
      obtain ⟨M113, hm113, hv113, hw113⟩ := h113
      rw [List.eraseIdx_append_of_length_le (Nat.le_refl _), Nat.sub_self, List.eraseIdx_cons_zero] at hv113
      have hr113 : mR b (zs_w Z (kept ++ rest)) M113 := hr.wl hw113 hv113
      have hI113 : zI s (zs_w Z (kept ++ rest)) := hI.sw (by rw [List.length_append]; omega) (fun x hx => by
        rcases List.mem_append.mp hx with y | y
        · exact hw2 x y
        · exact hw1 x (List.mem_cons_of_mem _ y))
      have hs113 := (hr113.2.2.2.2.2.2.2.2.2.2.1 d hd).2.2 h2
      refine pm_aload_n dX7_spread_116 rfl ?_
      refine pm_iload dX7_spread_117 rfl ?_
      refine pm_iload dX7_spread_119 rfl ?_
      refine pm_iload_n dX7_spread_121 rfl ?_
      refine pm_sipush (v := 2880) dX7_spread_122 (by decide) ?_
      refine pm_iload_n dX7_spread_125 rfl ?_
      refine pm_iadd dX7_spread_126 ?_
      rw [show (2880 : Int32) + nI d = nI (2880 + d) from nI_add _ _]
      refine pm_vv (c_X7_tellsDown G l bs A E M113 b (zs_w Z (kept ++ rest)) s t.2.1 d (2880 + d) (nI t.1) (az_t Z 1 d 0) _ hm113 hr113 hI113 hwt.1 (by omega) (by omega) hs113 (hI.rs hd)) pm_y_X7_tellsDown pm_v_X7_tellsDown pm_m_X7_168 (c := 7) (r := (RX7, TX7, 41)) rfl rfl hm113.1 dX7_spread_127 rfl rfl (by decide) (Nat.le_of_ble_eq_true rfl) (fun S127 h127 => ?_)
      obtain ⟨M127, hm127, hr127⟩ := h127
      rw [zw_comes] at hr127
      have hI127 := hI.comes (p := t.2.1) hwt.1 (tl_r_wf2 (m := nI t.1) (hI.rs hd) hd hn)
      have n127 := zComes_n Z t.2.1 (tl_r [-1, 1, 7, -1, 0, nI t.1, -1, 2, nI (d + 1)] (az_t Z 1 d 0))
      have d127 : az_b (zComes Z t.2.1 (tl_r [-1, 1, 7, -1, 0, nI t.1, -1, 2, nI (d + 1)] (az_t Z 1 d 0))) 1 d = 2 := zd_comes h2
      refine pm_goto (tgt := 71) dX7_spread_130 (by decide) ?_
      first
      | exact ih (m - 1) (by omega) kept rest _ M127 _ _ _ (by omega) hm127 hr127 hI127 (by omega) (fun x hx => by rw [n127]; exact hw1 x (List.mem_cons_of_mem _ hx)) (fun x hx => by rw [n127]; exact hw2 x hx) (by rw [n127]; exact hd) d127 hF (by rw [← hK, List.filter_cons_of_neg (by simpa using g1)]) hk
      | (rw [show nI kept.length + Int32.ofInt 1 = nI (kept ++ [t]).length from by rw [List.length_append]; exact nI_1 _]; exact ih (m - 1) (by omega) (kept ++ [t]) rest Z M _ _ _ (by omega) hm (by rw [List.append_assoc]; exact hr) hI (by rw [List.length_append]; show _ + 1 + _ ≤ 200; omega) (fun x hx => hw1 x (List.mem_cons_of_mem _ hx)) (fun x hx => by
          rcases List.mem_append.mp hx with y | y
          · exact hw2 x y
          · rw [List.mem_singleton.mp y]; exact hwt) hd h2 hF (by rw [← hK, List.filter_cons_of_pos (by simpa using g1), List.append_assoc]; rfl) hk)
    · skip
      have g1 : ¬ t.2.2 = d := fun z => h86 (by rw [z])
      rw [if_neg g1] at hF
      refine pm_iinc dX7_spread_89 rfl rfl (by decide) ?_
      dsimp only [List.set]
      refine pm_goto (tgt := 71) dX7_spread_92 (by decide) ?_
      first
      | exact ih (m - 1) (by omega) kept rest _ M127 _ _ _ (by omega) hm127 hr127 hI127 (by omega) (fun x hx => by rw [n127]; exact hw1 x (List.mem_cons_of_mem _ hx)) (fun x hx => by rw [n127]; exact hw2 x hx) (by rw [n127]; exact hd) d127 hF (by rw [← hK, List.filter_cons_of_neg (by simpa using g1)]) hk
      | (rw [show nI kept.length + Int32.ofInt 1 = nI (kept ++ [t]).length from by rw [List.length_append]; exact nI_1 _]; exact ih (m - 1) (by omega) (kept ++ [t]) rest Z M _ _ _ (by omega) hm (by rw [List.append_assoc]; exact hr) hI (by rw [List.length_append]; show _ + 1 + _ ≤ 200; omega) (fun x hx => hw1 x (List.mem_cons_of_mem _ hx)) (fun x hx => by
          rcases List.mem_append.mp hx with y | y
          · exact hw2 x y
          · rw [List.mem_singleton.mp y]; exact hwt) hd h2 hF (by rw [← hK, List.filter_cons_of_pos (by simpa using g1), List.append_assoc]; rfl) hk)
set_option maxHeartbeats 4000000 in
set_option maxRecDepth 100000 in
theorem c_X7_spread (G : pm_G) (l : Launch) (bs : Nat) (A : Nat → Nat) (E : pm_S) (M : pm_N) (b : Nat) (Z : az) (s : Nat) (F : az) (S : pm_S) (hm : pm_MX M S A E) (hr : mR b Z M) (hI : zI s Z) (hb : b = az_a Z 2) (hF : zSpread 60 Z = F) : pm_M G l bs yX7_spread cX7_spread 6 none 4 0 0 [.ref (A 50)] S (pm_qv (fun S2 => ∃ M2, pm_MX M2 S2 A E ∧ mR (az_a F 1) F M2)) := by
  refine pm_Mv (L := [.ref (A 50), pm_u, pm_u, pm_u, pm_u, pm_u]) false (by decide +kernel) (fun h => by cases h) rfl (pm_en_1 rfl (pm_en_0 rfl)) ?_
  generalize hQ9 : pm_xv (fun S2 => ∃ M2, pm_MX M2 S2 A E ∧ mR (az_a F 1) F M2) = Q9
  have loop : ∀ (m i : Nat) (Z9 : az) (M9 : pm_N) (S9 : pm_S) (v2 v3 v4 v5 : Value), i + m = 60 → az_a Z9 2 = b + i → zI s Z9 → pm_MX M9 S9 A E → mR b Z9 M9 → zSpread m Z9 = F → pm_W G l bs yX7_spread.cls cX7_spread 6 false 4 0 0 Q9 2 [.ref (A 50), .int (nI i), v2, v3, v4, v5] [] S9 := by
    intro m
    induction m using Nat.strongRecOn with
    | ind m ih =>
    intro i Z9 M9 S9 v2 v3 v4 v5 him h2b hI9 hm9 hr9 hF
    have hn := hI9.1
    have hF9 := hr9.2.2.2.2.2.2.2.2.2.1
    have h160 : az_a Z9 1 ≤ 60 := by have := hI9.2.2.2.2.1.1; have := zCnt_le Z9 2 (az_a Z9 0); omega
    refine pm_iload_n dX7_spread_2 rfl ?_
    refine pm_aload_n dX7_spread_3 rfl ?_
    refine pm_g_Model_fallenCount hm9.1 pm_f_X7_157 dX7_spread_4 ?_
    rw [hm9.f (g := 383) (f := 33) rfl]
    rw [hF9.1]
    refine pm_icmp_ge (tgt := 139) dX7_spread_7 (by decide) (fun h7 => ?_) (fun h7 => ?_)
    · skip
      have h8 : ¬ az_a Z9 2 < az_a Z9 1 := by have := (pm_nle (a := az_a Z9 1 - b) (b := i) (by omega) (by omega)).mp h7; omega
      have hE : Z9 = F := by rw [← hF]; cases m with
        | zero => rfl
        | succ m => rw [zSpread, if_neg h8]
      refine pm_aload_n dX7_spread_139 rfl ?_
      refine pm_iconst (v := 0) dX7_spread_140 (by decide) ?_
      refine pm_p_Model_fallenCount hm9.1 pm_f_X7_157 dX7_spread_141 ?_
      refine mm_gen (hm9.si (g := 383) (f := 33) rfl) (fun S141 hm141 => ?_)
      skip
      subst hQ9
      refine pm_vret dX7_spread_144 ?_
      exact ⟨_, hm141, by rw [← hE]; exact hr9.base⟩
    · skip
      have h7b : i < az_a Z9 1 - b := by rcases Nat.lt_or_ge i (az_a Z9 1 - b) with y | y; exact y; exact absurd ((pm_nle (a := az_a Z9 1 - b) (b := i) (by omega) (by omega)).mpr y) h7
      have h8 : az_a Z9 2 < az_a Z9 1 := by omega
      obtain ⟨m, rfl⟩ : ∃ m2, m = m2 + 1 := ⟨m - 1, by omega⟩
      rw [zSpread, if_pos h8] at hF
      have hd := hI9.2.2.2.2.1.2.2 _ h8
      refine pm_aload_n dX7_spread_10 rfl ?_
      refine pm_g_Model_fallen hm9.1 pm_f_X7_96 (hm9.2.1 32 (by decide)).1 dX7_spread_11 ?_
      refine pm_iload_n dX7_spread_14 rfl ?_
      refine mm_iaload (n := _) hm9 (by decide) rfl (by show _ < 60; omega) dX7_spread_15 ?_
      rw [hF9.2.2 i h7b, ← h2b]
      refine pm_istn dX7_spread_16 (i := 2) rfl (by decide) ?_
      dsimp only [List.set]
      refine pm_iconst (v := 0) dX7_spread_17 (by decide) ?_
      refine pm_istn dX7_spread_18 (i := 3) rfl (by decide) ?_
      dsimp only [List.set]
      have hI1 := hI9.a2 h8
      have hI2 := zI.tellL (az_a Z9 0) (zs_a Z9 2 (az_a Z9 2 + 1)) (az_c Z9 3 0 (az_a Z9 2)) 0 hI1 hd.1 (by show 0 + az_a Z9 0 ≤ az_a Z9 0; omega)
      have l2 := zLe_tellL (az_a Z9 0) (zs_a Z9 2 (az_a Z9 2 + 1)) (az_c Z9 3 0 (az_a Z9 2)) 0 (by show 0 + az_a Z9 0 ≤ az_a Z9 0; omega)
      have hI3 := (hI1.tell (p := (az_c Z9 3 0 (az_a Z9 2))) hd.1)
      refine spreadB G l bs A E b s i (az_c Z9 3 0 (az_a Z9 2)) (zTellL (az_a Z9 0) (zs_a Z9 2 (az_a Z9 2 + 1)) (az_c Z9 3 0 (az_a Z9 2)) 0) Q9 _ _ (az_a Z9 0) 0 (zs_a Z9 2 (az_a Z9 2 + 1)) M9 _ hm9 (hr9.a2) hI1 (by show 0 + az_a Z9 0 = az_a Z9 0; omega) hd.1 hd.2 rfl (fun M2 S2 q2 hm2 hr2 h22 => ?_)
      refine pm_iconst (v := 0) dX7_spread_69 (by decide) ?_
      refine pm_istn dX7_spread_70 (i := 3) rfl (by decide) ?_
      dsimp only [List.set]
      refine spreadC G l bs A E b s i (az_c Z9 3 0 (az_a Z9 2)) (zTellW (az_w (zTellL (az_a Z9 0) (zs_a Z9 2 (az_a Z9 2 + 1)) (az_c Z9 3 0 (az_a Z9 2)) 0)) (zTellL (az_a Z9 0) (zs_a Z9 2 (az_a Z9 2 + 1)) (az_c Z9 3 0 (az_a Z9 2)) 0) (az_c Z9 3 0 (az_a Z9 2))) Q9 ((az_w (zTellL (az_a Z9 0) (zs_a Z9 2 (az_a Z9 2 + 1)) (az_c Z9 3 0 (az_a Z9 2)) 0)).filter (fun t => decide (t.2.2 ≠ (az_c Z9 3 0 (az_a Z9 2))))) (az_w (zTellL (az_a Z9 0) (zs_a Z9 2 (az_a Z9 2 + 1)) (az_c Z9 3 0 (az_a Z9 2)) 0)).length [] (az_w (zTellL (az_a Z9 0) (zs_a Z9 2 (az_a Z9 2 + 1)) (az_c Z9 3 0 (az_a Z9 2)) 0)) (zTellL (az_a Z9 0) (zs_a Z9 2 (az_a Z9 2 + 1)) (az_c Z9 3 0 (az_a Z9 2)) 0) M2 _ _ _ rfl hm2 (by exact hr2) hI2 (by have := hI2.2.2.2.2.2.2.2.2.1.1; show 0 + _ ≤ 200; omega) hI2.2.2.2.2.2.2.2.2.1.2 (fun t ht => absurd ht (by simp)) (by rw [l2.1]; exact hd.1) h22 rfl rfl (fun M3 S3 v3 v4 v5 hm3 hr3 => ?_)
      refine pm_iinc dX7_spread_133 rfl rfl (by decide) ?_
      dsimp only [List.set]
      refine pm_goto (tgt := 2) dX7_spread_136 (by decide) ?_
      rw [show nI i + Int32.ofInt 1 = nI (i + 1) from nI_1 _]
      have eT : zs_w (zTellW (az_w (zTellL (az_a Z9 0) (zs_a Z9 2 (az_a Z9 2 + 1)) (az_c Z9 3 0 (az_a Z9 2)) 0)) (zTellL (az_a Z9 0) (zs_a Z9 2 (az_a Z9 2 + 1)) (az_c Z9 3 0 (az_a Z9 2)) 0) (az_c Z9 3 0 (az_a Z9 2))) ((az_w (zTellL (az_a Z9 0) (zs_a Z9 2 (az_a Z9 2 + 1)) (az_c Z9 3 0 (az_a Z9 2)) 0)).filter (fun t => decide (t.2.2 ≠ (az_c Z9 3 0 (az_a Z9 2))))) = zTell (zs_a Z9 2 (az_a Z9 2 + 1)) (az_c Z9 3 0 (az_a Z9 2)) := by
        unfold zTell
        dsimp only
        rw [zTellW_w]
        rfl
      rw [eT] at hr3
      exact ih m (by omega) (i + 1) _ M3 _ _ _ _ _ (by omega) (by rw [zTell_a2, z_a_a, if_pos rfl]; omega) hI3.1 hm3 hr3 hF
  refine pm_iconst (v := 0) dX7_spread_0 (by decide) ?_
  refine pm_istn dX7_spread_1 (i := 1) rfl (by decide) ?_
  dsimp only [List.set]
  exact loop 60 0 Z M _ _ _ _ _ (by omega) (by omega) hI hm hr hF

