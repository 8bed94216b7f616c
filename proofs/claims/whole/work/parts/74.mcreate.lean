/-! the reference: creation, mail, others -/
theorem nIm1 {q : Nat} (h : q < 2 ^ 31) : ¬ nI q = -1 := fun z => by
  have := congrArg Int32.toInt z
  rw [nI_toInt h] at this
  have e : (-1 : Int32).toInt = -1 := by decide
  omega
theorem tW.atom_of {n : Nat} {w : List Int32} (h : tW n w) (h1 : zKind w = 1) : ∃ a, a < 100 ∧ zVal w = nI a ∧ (zVal w).toInt = (a : Int) := by
  rcases h.cases with ⟨k, v, rfl, hk, ht⟩ | ⟨r, rfl, -⟩
  · have h1 : pm_kd k = 1 := h1
    rcases ht with rfl | ⟨rfl, a1, a2⟩ | ⟨rfl, -⟩
    · exact absurd h1 (by decide)
    · refine ⟨v.toInt.toNat, by omega, ?_, ?_⟩
      · show v = nI v.toInt.toNat
        exact Int32.toInt_inj.mp (by rw [nI_toInt (by omega)]; omega)
      · show v.toInt = _
        omega
    · exact absurd h1 (by decide)
  · exact absurd (show pm_kd (-1) = 1 from h1) (by decide)
theorem zLink_pp {Z : az} {p : Nat} (h : az_f Z p p = false) : zLink Z p p false = Z := by
  unfold zLink
  refine az_ext rfl rfl rfl rfl (funext fun a => funext fun c => ?_) rfl rfl rfl
  rw [z_f_f, z_f_f]
  by_cases e : a = p ∧ c = p
  · rw [if_pos e, e.1, e.2, h]
  · rw [if_neg e, if_neg e]
theorem zm_b (Z : az) (p : Nat) (g : Nat → List Int32) (j q v : Nat) : zs_m (zs_b Z j q v) p g = zs_b (zs_m Z p g) j q v := az_ext rfl rfl rfl rfl rfl rfl rfl rfl
set_option maxHeartbeats 4000000 in
set_option maxRecDepth 100000 in
theorem c_X7_create (G : pm_G) (l : Launch) (bs : Nat) (A : Nat → Nat) (E : pm_S) (M : pm_N) (b : Nat) (Z : az) (s : Nat) (a pr : Nat) (S : pm_S) (hm : pm_MX M S A E) (hr : mR b Z M) (hI : zI s Z) (hlt : az_a Z 0 < 60) : pm_M G l bs yX7_create cX7_create 5 (some .int) 1 0 0 [.ref (A 50), .int (nI a), .int (nI pr)] S (pm_qi (fun x S2 => x = nI (az_a Z 0) ∧ ∃ M2, pm_MX M2 S2 A E ∧ mR b (zNew Z a pr) M2)) := by
  refine pm_Mi (L := [.ref (A 50), .int (nI a), .int (nI pr), pm_u, pm_u]) (by decide +kernel) rfl (pm_en_1 rfl (pm_en_1 rfl (pm_en_1 rfl (pm_en_0 rfl)))) ?_
  generalize hQ9 : pm_xi (fun x S2 => x = nI (az_a Z 0) ∧ ∃ M2, pm_MX M2 S2 A E ∧ mR b (zNew Z a pr) M2) = Q9
  have loop : ∀ (m k : Nat) (M9 : pm_N) (S9 : pm_S), k + m = 8 → pm_MX M9 S9 A E → (∀ s k, 2 ≤ s → M9.1 s k = M.1 s k) → (∀ f, M9.2 f = if f = 25 then nI (az_a Z 0 + 1) else M.2 f) → (∀ t w, ¬ (8 * az_a Z 0 ≤ t ∧ t < 8 * az_a Z 0 + 8) → sl M t w → sl M9 t w) → (∀ j, j < k → sl M9 (8 * az_a Z 0 + j) [0, 0]) → pm_W G l bs yX7_create.cls cX7_create 5 false 1 0 0 Q9 18 [.ref (A 50), .int (nI a), .int (nI pr), .int (nI (az_a Z 0)), .int (nI k)] [] S9 := by
    intro m
    induction m using Nat.strongRecOn with
    | ind m ih =>
    intro k M9 S9 hkm hm9 e19 e29 e39 e49
    refine pm_iload dX7_create_18 rfl ?_
    refine pm_bipush (v := 8) dX7_create_20 (by decide) ?_
    refine pm_icmp_ge (tgt := 44) dX7_create_22 (by decide) (fun h22 => ?_) (fun h22 => ?_)
    · skip
      have h8 : k = 8 := by have := (pm_nle (a := 8) (b := k) (by omega) (by omega)).mp h22; omega
      refine pm_aload_n dX7_create_44 rfl ?_
      refine pm_g_Model_place hm9.1 pm_f_X7_32 (hm9.2.1 7 (by decide)).1 dX7_create_45 ?_
      refine pm_iload_n dX7_create_48 rfl ?_
      refine pm_iload_n dX7_create_49 rfl ?_
      refine mm_iastore (n := _) hm9 (by decide) rfl (by show _ < 60; omega) dX7_create_50 (fun S50 hm50 => ?_)
      refine pm_aload_n dX7_create_51 rfl ?_
      refine pm_g_Model_priority hm50.1 pm_f_X7_35 (hm50.2.1 8 (by decide)).1 dX7_create_52 ?_
      refine pm_iload_n dX7_create_55 rfl ?_
      refine pm_iload_n dX7_create_56 rfl ?_
      refine mm_iastore (n := _) hm50 (by decide) rfl (by show _ < 60; omega) dX7_create_57 (fun S57 hm57 => ?_)
      refine pm_aload_n dX7_create_58 rfl ?_
      refine pm_g_Model_name hm57.1 pm_f_X7_38 (hm57.2.1 9 (by decide)).1 dX7_create_59 ?_
      refine pm_iload_n dX7_create_62 rfl ?_
      refine pm_iconst (v := (-1)) dX7_create_63 (by decide) ?_
      refine mm_iastore (n := _) hm57 (by decide) rfl (by show _ < 60; omega) dX7_create_64 (fun S64 hm64 => ?_)
      refine pm_aload_n dX7_create_65 rfl ?_
      refine pm_iload_n dX7_create_66 rfl ?_
      refine pm_vv (c_X7_becomesReady G l bs A E _ (az_a Z 0) _ hm64 (by omega)) pm_y_X7_becomesReady pm_v_X7_becomesReady pm_m_X7_128 (c := 7) (r := (RX7, TX7, 41)) rfl rfl hm64.1 dX7_create_67 rfl rfl (by decide) (Nat.le_of_ble_eq_true rfl) (fun S67 h67 => ?_)
      rw [mx_2, mx_2, mx_2, e29, if_neg (by decide), hr.A (i := 3) rfl, nI_1] at h67
      have hr67 := hr.crt (a := a) (pr := pr) hlt e19 e29 e39 (fun j hj => e49 j (by omega))
      refine pm_iload_n dX7_create_70 rfl ?_
      subst hQ9
      refine pm_iret dX7_create_71 ?_
      exact ⟨rfl, _, h67, hr67⟩
    · skip
      have h8 : k < 8 := by rcases Nat.lt_or_ge k 8 with q | q; exact q; exact absurd ((pm_nle (a := 8) (b := k) (by omega) (by omega)).mpr q) h22
      refine pm_aload_n dX7_create_25 rfl ?_
      refine pm_bipush (v := 8) dX7_create_26 (by decide) ?_
      refine pm_iload_n dX7_create_28 rfl ?_
      refine pm_imul dX7_create_29 ?_
      refine pm_iload dX7_create_30 rfl ?_
      refine pm_iadd dX7_create_32 ?_
      refine pm_iconst (v := 0) dX7_create_33 (by decide) ?_
      refine pm_iconst (v := 0) dX7_create_34 (by decide) ?_
      rw [show (8 : Int32) * nI (az_a Z 0) + nI k = nI (8 * az_a Z 0 + k) from by rw [show (8 : Int32) = nI 8 from rfl, pk_mul, nI_add]]
      refine pm_vv (c_X7_set G l bs A E M9 (8 * az_a Z 0 + k) 0 0 _ hm9 (by omega)) pm_y_X7_set pm_v_X7_set pm_m_X7_124 (c := 7) (r := (RX7, TX7, 41)) rfl rfl hm9.1 dX7_create_35 rfl rfl (by decide) (Nat.le_of_ble_eq_true rfl) (fun S35 h35 => ?_)
      obtain ⟨M35, hm35, mt35, sl35⟩ := h35
      refine pm_iinc dX7_create_38 rfl rfl (by decide) ?_
      dsimp only [List.set]
      refine pm_goto (tgt := 18) dX7_create_41 (by decide) ?_
      rw [show nI k + Int32.ofInt 1 = nI (k + 1) from nI_1 _]
      exact ih (m - 1) (by omega) (k + 1) M35 _ (by omega) hm35 (fun s j hs => (mt35.e1 s j hs).trans (e19 s j hs)) (fun f => by rw [mt35.2]; exact e29 f) (fun t w h1 h2 => mt35.sl (by omega) (e39 t w h1 h2)) (fun j hj => by
        by_cases e : j = k
        · rw [e]; exact sl35
        · exact mt35.sl (by omega) (e49 j (by omega)))
  refine pm_aload_n dX7_create_0 rfl ?_
  refine pm_g_Model_count hm.1 pm_f_X7_121 dX7_create_1 ?_
  rw [hm.f (g := 375) (f := 25) rfl]
  rw [hr.A (i := 0) rfl]
  refine pm_istn dX7_create_4 (i := 3) rfl (by decide) ?_
  dsimp only [List.set]
  refine pm_aload_n dX7_create_5 rfl ?_
  refine pm_dup dX7_create_6 ?_
  refine pm_g_Model_count hm.1 pm_f_X7_121 dX7_create_7 ?_
  rw [hm.f (g := 375) (f := 25) rfl]
  refine pm_iconst (v := 1) dX7_create_10 (by decide) ?_
  refine pm_iadd dX7_create_11 ?_
  rw [hr.A (i := 0) rfl, nI_1]
  refine pm_p_Model_count hm.1 pm_f_X7_121 dX7_create_12 ?_
  refine mm_gen (hm.si (g := 375) (f := 25) rfl) (fun S12 hm12 => ?_)
  refine pm_iconst (v := 0) dX7_create_15 (by decide) ?_
  refine pm_istore dX7_create_16 (by decide) ?_
  dsimp only [List.set]
  exact loop 8 0 _ _ (by omega) hm12 (fun _ _ _ => rfl) (fun f => mi_2 _ _ _ _) (fun t w _ h => h) (fun j hj => absurd hj (by omega))

set_option maxHeartbeats 4000000 in
set_option maxRecDepth 100000 in
theorem m_21 (G : pm_G) (l : Launch) (bs : Nat) (A : Nat → Nat) (E : pm_S) (M : pm_N) (b : Nat) (Z : az) (s : Nat) (p ja jb jc : Nat) (a bb c : Int32) (vo v9 v10 v11 : Value) (W : az) (S : pm_S) (hm : pm_MX M S A E) (hr : mR b Z M) (hI : zI s Z) (hp : p < az_a Z 0) (h0 : az_b Z 1 p = 0) (hja : ja < 8) (hjb : jb < 8) (hjc : jc < 8) (hW : (if az_a Z 0 < 60 then zBg Z p false ja (pm_mod bb 300) (az_t Z 0 p jc) else zLim Z p) = W) : pm_W G l bs yX7_calls.cls cX7_calls 8 false 4 0 0 (pm_xv (fun S2 => ∃ M2, pm_MX M2 S2 A E ∧ mR b W M2)) 290 [.ref (A 50), .int (nI p), .int 21, .int bb, .int (nI (8 * p + ja)), .int (nI (8 * p + jc)), .int (nI (pm_mod a 300)), v9] [] S := by
  have hn := hI.1
  have hsm := hI.sm
  have h9b := hI.b9
  have h02 : az_b Z 1 p ≠ 2 := by omega
  have hsa := hr.G hp hja
  have hsb := hr.G hp hjb
  have hsc := hr.G hp hjc
  have hwa := hI.rg hp hja
  have hwb := hI.rg hp hjb
  have hwc := hI.rg hp hjc
  have hla := hwa.len
  have hlb := hwb.len
  have hlc := hwc.len
  generalize hQ9 : pm_xv (fun S2 => ∃ M2, pm_MX M2 S2 A E ∧ mR b W M2) = Q9
  refine pm_aload_n dX7_calls_290 rfl ?_
  refine pm_g_Model_count hm.1 pm_f_X7_121 dX7_calls_291 ?_
  rw [hm.f (g := 375) (f := 25) rfl]
  refine pm_bipush (v := 60) dX7_calls_294 (by decide) ?_
  rw [hr.A (i := 0) rfl]
  refine pm_icmp_ne (tgt := 309) dX7_calls_296 (by decide) (fun h296 => ?_) (fun h296 => ?_)
  · skip
    have g1 : az_a Z 0 < 60 := by have q : ¬ az_a Z 0 = 60 := fun z => h296 (by rw [z]; rfl); omega
    refine pm_aload_n dX7_calls_309 rfl ?_
    refine pm_iload_n dX7_calls_310 rfl ?_
    refine pm_sipush (v := 300) dX7_calls_311 (by decide) ?_
    refine pm_ssi (c_X7_mod G l bs bb 300 _ (by decide) (by decide)) pm_y_X7_mod pm_s_X7_mod pm_m_X7_199 dX7_calls_314 rfl rfl (by decide) (Nat.le_of_ble_eq_true rfl) (fun x314 S314 h314 => ?_)
    obtain ⟨rfl, rfl⟩ := h314
    refine pm_aload_n dX7_calls_317 rfl ?_
    refine pm_g_Model_priority hm.1 pm_f_X7_35 (hm.2.1 8 (by decide)).1 dX7_calls_318 ?_
    refine pm_iload_n dX7_calls_321 rfl ?_
    refine mm_iaload (n := _) hm (by decide) rfl (by show _ < 60; omega) dX7_calls_322 ?_
    rw [hr.B (i := 0) hp rfl]
    refine pm_vi (c_X7_create G l bs A E M b Z s (pm_mod bb 300) (az_b Z 0 p) _ hm hr hI g1) pm_y_X7_create pm_v_X7_create pm_m_X7_132 (c := 7) (r := (RX7, TX7, 41)) rfl rfl hm.1 dX7_calls_323 rfl rfl (by decide) (Nat.le_of_ble_eq_true rfl) (fun x323 S323 h323 => ?_)
    obtain ⟨rfl, M323, hm323, hr323⟩ := h323
    have hI323 := hI.new (a := pm_mod bb 300) (pr := az_b Z 0 p) g1 (pm_mod_lt bb (by decide)) (hI.b hp 0)
    have en : az_a (zNew Z (pm_mod bb 300) (az_b Z 0 p)) 0 = az_a Z 0 + 1 := (zNew_U Z _ _).1
    have hp3 : p < az_a (zNew Z (pm_mod bb 300) (az_b Z 0 p)) 0 := by omega
    have hq3 : az_a Z 0 < az_a (zNew Z (pm_mod bb 300) (az_b Z 0 p)) 0 := by omega
    have et : ∀ i k, az_t (zNew Z (pm_mod bb 300) (az_b Z 0 p)) i p k = az_t Z i p k := fun i k => by rw [zNew_t, if_neg (fun z => by omega)]
    have eB : zBg Z p false ja (pm_mod bb 300) (az_t Z 0 p jc) = zs_t (if false = true then zLink (zs_t (zs_t (zNew Z (pm_mod bb 300) (az_b Z 0 p)) 0 (az_a Z 0) 0 [2, nI (p + 1)]) 0 (az_a Z 0) 1 (az_t Z 0 p jc)) p (az_a Z 0) true else zs_t (zs_t (zNew Z (pm_mod bb 300) (az_b Z 0 p)) 0 (az_a Z 0) 0 [2, nI (p + 1)]) 0 (az_a Z 0) 1 (az_t Z 0 p jc)) 0 p ja [2, nI (az_a Z 0 + 1)] := by unfold zBg; rw [if_pos g1]
    generalize (zNew Z (pm_mod bb 300) (az_b Z 0 p)) = Z3 at hr323 hI323 en hp3 hq3 et eB
    refine pm_istore dX7_calls_326 (by decide) ?_
    dsimp only [List.set]
    refine pm_aload_n dX7_calls_328 rfl ?_
    refine pm_bipush (v := 8) dX7_calls_329 (by decide) ?_
    refine pm_iload dX7_calls_331 rfl ?_
    refine pm_imul dX7_calls_333 ?_
    refine pm_iconst (v := 2) dX7_calls_334 (by decide) ?_
    refine pm_iload_n dX7_calls_335 rfl ?_
    refine pm_iconst (v := 1) dX7_calls_336 (by decide) ?_
    refine pm_iadd dX7_calls_337 ?_
    rw [nI_1, show (8 : Int32) * nI (az_a Z 0) = nI (8 * az_a Z 0 + 0) from by rw [show (8 : Int32) = nI 8 from rfl, pk_mul]; rfl]
    refine pm_vv (c_X7_set G l bs A E M323 (8 * az_a Z 0 + 0) 2 (nI (p + 1)) _ hm323 (by omega)) pm_y_X7_set pm_v_X7_set pm_m_X7_124 (c := 7) (r := (RX7, TX7, 41)) rfl rfl hm323.1 dX7_calls_338 rfl rfl (by decide) (Nat.le_of_ble_eq_true rfl) (fun S338 h338 => ?_)
    obtain ⟨M338, hm338, mt338, sl338⟩ := h338
    have hr338 := hr323.reg (p := az_a Z 0) (j := 0) hI323.1 hI323.b9 hq3 (by decide) mt338 sl338
    have hI338 := hI323.t0 (p := az_a Z 0) (j := 0) (tW.pid hp3 hI323.1)
    have sc : sl M338 (8 * p + jc) (az_t Z 0 p jc) := by
      have q := hr338.G (p := p) (j := jc) hp3 hjc
      rw [z_t_t, if_neg (fun z => by omega), et] at q
      exact q
    refine pm_aload_n dX7_calls_341 rfl ?_
    refine pm_bipush (v := 8) dX7_calls_342 (by decide) ?_
    refine pm_iload dX7_calls_344 rfl ?_
    refine pm_imul dX7_calls_346 ?_
    refine pm_iconst (v := 1) dX7_calls_347 (by decide) ?_
    refine pm_iadd dX7_calls_348 ?_
    refine pm_iload dX7_calls_349 rfl ?_
    rw [show (8 : Int32) * nI (az_a Z 0) + 1 = nI (8 * az_a Z 0 + 1) from by rw [show (8 : Int32) = nI 8 from rfl, pk_mul, nI_1]]
    refine pm_vv (c_X7_copy G l bs A E M338 (8 * az_a Z 0 + 1) (8 * p + jc) (az_t Z 0 p jc) _ hm338 (by omega) (by omega) sc) pm_y_X7_copy pm_v_X7_copy pm_m_X7_136 (c := 7) (r := (RX7, TX7, 41)) rfl rfl hm338.1 dX7_calls_351 rfl rfl (by decide) (Nat.le_of_ble_eq_true rfl) (fun S351 h351 => ?_)
    obtain ⟨M351, hm351, mt351, sl351⟩ := h351
    have hr351 := hr338.reg (p := az_a Z 0) (j := 1) hI338.1 hI338.b9 hq3 (by decide) mt351 sl351
    have hw4 : tW (az_a Z 0 + 1) (az_t Z 0 p jc) := hwc.mono (by omega)
    rw [← en] at hw4
    have hI351 := hI338.t0 (p := az_a Z 0) (j := 1) hw4
    have en4 : az_a (zs_t (zs_t Z3 0 (az_a Z 0) 0 [2, nI (p + 1)]) 0 (az_a Z 0) 1 (az_t Z 0 p jc)) 0 = az_a Z 0 + 1 := en
    generalize zs_t (zs_t Z3 0 (az_a Z 0) 0 [2, nI (p + 1)]) 0 (az_a Z 0) 1 (az_t Z 0 p jc) = Z4 at hr351 hI351 eB en4
    rw [if_neg (by decide)] at eB
    have hr367 := hr351
    have hI367 := hI351
    have hm367 := hm351
    have en5 := en4
    obtain ⟨M367, hM367⟩ : ∃ M9, M9 = M351 := ⟨_, rfl⟩
    rw [← hM367] at hr367 hm367
    obtain ⟨Z5, hZ5⟩ : ∃ Z9, Z9 = Z4 := ⟨_, rfl⟩
    rw [← hZ5] at hr367 hI367 eB en5
    refine pm_iload_n dX7_calls_354 rfl ?_
    refine pm_bipush (v := 22) dX7_calls_355 (by decide) ?_
    refine pm_icmp_ne (tgt := 368) dX7_calls_357 (by decide) (fun h357 => ?_) (fun h357 => ?_)
    · skip
      skip
      refine pm_aload_n dX7_calls_368 rfl ?_
      refine pm_iload dX7_calls_369 rfl ?_
      refine pm_iconst (v := 2) dX7_calls_371 (by decide) ?_
      refine pm_iload dX7_calls_372 rfl ?_
      refine pm_iconst (v := 1) dX7_calls_374 (by decide) ?_
      refine pm_iadd dX7_calls_375 ?_
      rw [nI_1]
      refine pm_vv (c_X7_set G l bs A E M367 (8 * p + ja) 2 (nI (az_a Z 0 + 1)) _ hm367 (by omega)) pm_y_X7_set pm_v_X7_set pm_m_X7_124 (c := 7) (r := (RX7, TX7, 41)) rfl rfl hm367.1 dX7_calls_376 rfl rfl (by decide) (Nat.le_of_ble_eq_true rfl) (fun S376 h376 => ?_)
      obtain ⟨M376, hm376, mt376, sl376⟩ := h376
      refine pm_goto (tgt := 382) dX7_calls_379 (by decide) ?_
      subst hQ9
      refine pm_vret dX7_calls_382 ?_
      first
      | (rw [if_neg g1] at hW; subst hW; exact ⟨M303, hm303, hr303⟩)
      | (rw [if_pos g1] at hW; subst hW; exact ⟨M376, hm376, by rw [eB]; exact hr367.reg hI367.1 hI367.b9 (by omega) hja mt376 sl376⟩)
    · exact absurd h357 (by decide)
  · skip
    have g1 : ¬ az_a Z 0 < 60 := by have q : az_a Z 0 = 60 := (nI_eq (b := 60) (by omega) (by decide)).mp h296; omega
    refine pm_aload_n dX7_calls_299 rfl ?_
    refine pm_iload_n dX7_calls_300 rfl ?_
    refine pm_iconst (v := 1) dX7_calls_301 (by decide) ?_
    refine pm_iconst (v := 5) dX7_calls_302 (by decide) ?_
    refine pm_vv (c_X7_failsWith G l bs A E M b Z s p 1 5 _ hm hr hI hp h02) pm_y_X7_failsWith pm_v_X7_failsWith pm_m_X7_193 (c := 7) (r := (RX7, TX7, 41)) rfl rfl hm.1 dX7_calls_303 rfl rfl (by decide) (Nat.le_of_ble_eq_true rfl) (fun S303 h303 => ?_)
    obtain ⟨M303, hm303, hr303⟩ := h303
    refine pm_goto (tgt := 382) dX7_calls_306 (by decide) ?_
    subst hQ9
    refine pm_vret dX7_calls_382 ?_
    first
    | (rw [if_neg g1] at hW; subst hW; exact ⟨M303, hm303, hr303⟩)
    | (rw [if_pos g1] at hW; subst hW; exact ⟨M376, hm376, by rw [eB]; exact hr367.reg hI367.1 hI367.b9 (by omega) hja mt376 sl376⟩)

set_option maxHeartbeats 4000000 in
set_option maxRecDepth 100000 in
theorem m_22 (G : pm_G) (l : Launch) (bs : Nat) (A : Nat → Nat) (E : pm_S) (M : pm_N) (b : Nat) (Z : az) (s : Nat) (p ja jb jc : Nat) (a bb c : Int32) (vo v9 v10 v11 : Value) (W : az) (S : pm_S) (hm : pm_MX M S A E) (hr : mR b Z M) (hI : zI s Z) (hp : p < az_a Z 0) (h0 : az_b Z 1 p = 0) (hja : ja < 8) (hjb : jb < 8) (hjc : jc < 8) (hW : (if az_a Z 0 < 60 then zBg Z p true ja (pm_mod bb 300) (az_t Z 0 p jc) else zLim Z p) = W) : pm_W G l bs yX7_calls.cls cX7_calls 8 false 4 0 0 (pm_xv (fun S2 => ∃ M2, pm_MX M2 S2 A E ∧ mR b W M2)) 290 [.ref (A 50), .int (nI p), .int 22, .int bb, .int (nI (8 * p + ja)), .int (nI (8 * p + jc)), .int (nI (pm_mod a 300)), v9] [] S := by
  have hn := hI.1
  have hsm := hI.sm
  have h9b := hI.b9
  have h02 : az_b Z 1 p ≠ 2 := by omega
  have hsa := hr.G hp hja
  have hsb := hr.G hp hjb
  have hsc := hr.G hp hjc
  have hwa := hI.rg hp hja
  have hwb := hI.rg hp hjb
  have hwc := hI.rg hp hjc
  have hla := hwa.len
  have hlb := hwb.len
  have hlc := hwc.len
  generalize hQ9 : pm_xv (fun S2 => ∃ M2, pm_MX M2 S2 A E ∧ mR b W M2) = Q9
  refine pm_aload_n dX7_calls_290 rfl ?_
  refine pm_g_Model_count hm.1 pm_f_X7_121 dX7_calls_291 ?_
  rw [hm.f (g := 375) (f := 25) rfl]
  refine pm_bipush (v := 60) dX7_calls_294 (by decide) ?_
  rw [hr.A (i := 0) rfl]
  refine pm_icmp_ne (tgt := 309) dX7_calls_296 (by decide) (fun h296 => ?_) (fun h296 => ?_)
  · skip
    have g1 : az_a Z 0 < 60 := by have q : ¬ az_a Z 0 = 60 := fun z => h296 (by rw [z]; rfl); omega
    refine pm_aload_n dX7_calls_309 rfl ?_
    refine pm_iload_n dX7_calls_310 rfl ?_
    refine pm_sipush (v := 300) dX7_calls_311 (by decide) ?_
    refine pm_ssi (c_X7_mod G l bs bb 300 _ (by decide) (by decide)) pm_y_X7_mod pm_s_X7_mod pm_m_X7_199 dX7_calls_314 rfl rfl (by decide) (Nat.le_of_ble_eq_true rfl) (fun x314 S314 h314 => ?_)
    obtain ⟨rfl, rfl⟩ := h314
    refine pm_aload_n dX7_calls_317 rfl ?_
    refine pm_g_Model_priority hm.1 pm_f_X7_35 (hm.2.1 8 (by decide)).1 dX7_calls_318 ?_
    refine pm_iload_n dX7_calls_321 rfl ?_
    refine mm_iaload (n := _) hm (by decide) rfl (by show _ < 60; omega) dX7_calls_322 ?_
    rw [hr.B (i := 0) hp rfl]
    refine pm_vi (c_X7_create G l bs A E M b Z s (pm_mod bb 300) (az_b Z 0 p) _ hm hr hI g1) pm_y_X7_create pm_v_X7_create pm_m_X7_132 (c := 7) (r := (RX7, TX7, 41)) rfl rfl hm.1 dX7_calls_323 rfl rfl (by decide) (Nat.le_of_ble_eq_true rfl) (fun x323 S323 h323 => ?_)
    obtain ⟨rfl, M323, hm323, hr323⟩ := h323
    have hI323 := hI.new (a := pm_mod bb 300) (pr := az_b Z 0 p) g1 (pm_mod_lt bb (by decide)) (hI.b hp 0)
    have en : az_a (zNew Z (pm_mod bb 300) (az_b Z 0 p)) 0 = az_a Z 0 + 1 := (zNew_U Z _ _).1
    have hp3 : p < az_a (zNew Z (pm_mod bb 300) (az_b Z 0 p)) 0 := by omega
    have hq3 : az_a Z 0 < az_a (zNew Z (pm_mod bb 300) (az_b Z 0 p)) 0 := by omega
    have et : ∀ i k, az_t (zNew Z (pm_mod bb 300) (az_b Z 0 p)) i p k = az_t Z i p k := fun i k => by rw [zNew_t, if_neg (fun z => by omega)]
    have eB : zBg Z p true ja (pm_mod bb 300) (az_t Z 0 p jc) = zs_t (if true = true then zLink (zs_t (zs_t (zNew Z (pm_mod bb 300) (az_b Z 0 p)) 0 (az_a Z 0) 0 [2, nI (p + 1)]) 0 (az_a Z 0) 1 (az_t Z 0 p jc)) p (az_a Z 0) true else zs_t (zs_t (zNew Z (pm_mod bb 300) (az_b Z 0 p)) 0 (az_a Z 0) 0 [2, nI (p + 1)]) 0 (az_a Z 0) 1 (az_t Z 0 p jc)) 0 p ja [2, nI (az_a Z 0 + 1)] := by unfold zBg; rw [if_pos g1]
    generalize (zNew Z (pm_mod bb 300) (az_b Z 0 p)) = Z3 at hr323 hI323 en hp3 hq3 et eB
    refine pm_istore dX7_calls_326 (by decide) ?_
    dsimp only [List.set]
    refine pm_aload_n dX7_calls_328 rfl ?_
    refine pm_bipush (v := 8) dX7_calls_329 (by decide) ?_
    refine pm_iload dX7_calls_331 rfl ?_
    refine pm_imul dX7_calls_333 ?_
    refine pm_iconst (v := 2) dX7_calls_334 (by decide) ?_
    refine pm_iload_n dX7_calls_335 rfl ?_
    refine pm_iconst (v := 1) dX7_calls_336 (by decide) ?_
    refine pm_iadd dX7_calls_337 ?_
    rw [nI_1, show (8 : Int32) * nI (az_a Z 0) = nI (8 * az_a Z 0 + 0) from by rw [show (8 : Int32) = nI 8 from rfl, pk_mul]; rfl]
    refine pm_vv (c_X7_set G l bs A E M323 (8 * az_a Z 0 + 0) 2 (nI (p + 1)) _ hm323 (by omega)) pm_y_X7_set pm_v_X7_set pm_m_X7_124 (c := 7) (r := (RX7, TX7, 41)) rfl rfl hm323.1 dX7_calls_338 rfl rfl (by decide) (Nat.le_of_ble_eq_true rfl) (fun S338 h338 => ?_)
    obtain ⟨M338, hm338, mt338, sl338⟩ := h338
    have hr338 := hr323.reg (p := az_a Z 0) (j := 0) hI323.1 hI323.b9 hq3 (by decide) mt338 sl338
    have hI338 := hI323.t0 (p := az_a Z 0) (j := 0) (tW.pid hp3 hI323.1)
    have sc : sl M338 (8 * p + jc) (az_t Z 0 p jc) := by
      have q := hr338.G (p := p) (j := jc) hp3 hjc
      rw [z_t_t, if_neg (fun z => by omega), et] at q
      exact q
    refine pm_aload_n dX7_calls_341 rfl ?_
    refine pm_bipush (v := 8) dX7_calls_342 (by decide) ?_
    refine pm_iload dX7_calls_344 rfl ?_
    refine pm_imul dX7_calls_346 ?_
    refine pm_iconst (v := 1) dX7_calls_347 (by decide) ?_
    refine pm_iadd dX7_calls_348 ?_
    refine pm_iload dX7_calls_349 rfl ?_
    rw [show (8 : Int32) * nI (az_a Z 0) + 1 = nI (8 * az_a Z 0 + 1) from by rw [show (8 : Int32) = nI 8 from rfl, pk_mul, nI_1]]
    refine pm_vv (c_X7_copy G l bs A E M338 (8 * az_a Z 0 + 1) (8 * p + jc) (az_t Z 0 p jc) _ hm338 (by omega) (by omega) sc) pm_y_X7_copy pm_v_X7_copy pm_m_X7_136 (c := 7) (r := (RX7, TX7, 41)) rfl rfl hm338.1 dX7_calls_351 rfl rfl (by decide) (Nat.le_of_ble_eq_true rfl) (fun S351 h351 => ?_)
    obtain ⟨M351, hm351, mt351, sl351⟩ := h351
    have hr351 := hr338.reg (p := az_a Z 0) (j := 1) hI338.1 hI338.b9 hq3 (by decide) mt351 sl351
    have hw4 : tW (az_a Z 0 + 1) (az_t Z 0 p jc) := hwc.mono (by omega)
    rw [← en] at hw4
    have hI351 := hI338.t0 (p := az_a Z 0) (j := 1) hw4
    have en4 : az_a (zs_t (zs_t Z3 0 (az_a Z 0) 0 [2, nI (p + 1)]) 0 (az_a Z 0) 1 (az_t Z 0 p jc)) 0 = az_a Z 0 + 1 := en
    generalize zs_t (zs_t Z3 0 (az_a Z 0) 0 [2, nI (p + 1)]) 0 (az_a Z 0) 1 (az_t Z 0 p jc) = Z4 at hr351 hI351 eB en4
    rw [if_pos rfl] at eB
    refine pm_iload_n dX7_calls_354 rfl ?_
    refine pm_bipush (v := 22) dX7_calls_355 (by decide) ?_
    refine pm_icmp_ne (tgt := 368) dX7_calls_357 (by decide) (fun h357 => ?_) (fun h357 => ?_)
    · exact absurd rfl h357
    · skip
      skip
      refine pm_aload_n dX7_calls_360 rfl ?_
      refine pm_iload_n dX7_calls_361 rfl ?_
      refine pm_iload dX7_calls_362 rfl ?_
      refine pm_iconst (v := 1) dX7_calls_364 (by decide) ?_
      refine pm_vv (c_X7_link G l bs A E M351 p (az_a Z 0) 1 _ hm351 (by omega) (by omega) (Or.inr rfl)) pm_y_X7_link pm_v_X7_link pm_m_X7_160 (c := 7) (r := (RX7, TX7, 41)) rfl rfl hm351.1 dX7_calls_365 rfl rfl (by decide) (Nat.le_of_ble_eq_true rfl) (fun S365 h365 => ?_)
      have hm367 := h365
      have hr367 := hr351.link (p := p) (q := az_a Z 0) (v := true) (x := 1) (by omega) (by omega) rfl
      have hI367 := hI351.lk (p := p) (q := az_a Z 0) (v := true) (by omega) (by omega) (by omega)
      have en5 : az_a (zLink Z4 p (az_a Z 0) true) 0 = az_a Z 0 + 1 := en4
      generalize mx (mx M351 24 (60 * p + az_a Z 0) 1) 24 (60 * az_a Z 0 + p) 1 = M367 at hm367 hr367
      generalize zLink Z4 p (az_a Z 0) true = Z5 at hr367 hI367 eB en5
      refine pm_aload_n dX7_calls_368 rfl ?_
      refine pm_iload dX7_calls_369 rfl ?_
      refine pm_iconst (v := 2) dX7_calls_371 (by decide) ?_
      refine pm_iload dX7_calls_372 rfl ?_
      refine pm_iconst (v := 1) dX7_calls_374 (by decide) ?_
      refine pm_iadd dX7_calls_375 ?_
      rw [nI_1]
      refine pm_vv (c_X7_set G l bs A E M367 (8 * p + ja) 2 (nI (az_a Z 0 + 1)) _ hm367 (by omega)) pm_y_X7_set pm_v_X7_set pm_m_X7_124 (c := 7) (r := (RX7, TX7, 41)) rfl rfl hm367.1 dX7_calls_376 rfl rfl (by decide) (Nat.le_of_ble_eq_true rfl) (fun S376 h376 => ?_)
      obtain ⟨M376, hm376, mt376, sl376⟩ := h376
      refine pm_goto (tgt := 382) dX7_calls_379 (by decide) ?_
      subst hQ9
      refine pm_vret dX7_calls_382 ?_
      first
      | (rw [if_neg g1] at hW; subst hW; exact ⟨M303, hm303, hr303⟩)
      | (rw [if_pos g1] at hW; subst hW; exact ⟨M376, hm376, by rw [eB]; exact hr367.reg hI367.1 hI367.b9 (by omega) hja mt376 sl376⟩)
  · skip
    have g1 : ¬ az_a Z 0 < 60 := by have q : az_a Z 0 = 60 := (nI_eq (b := 60) (by omega) (by decide)).mp h296; omega
    refine pm_aload_n dX7_calls_299 rfl ?_
    refine pm_iload_n dX7_calls_300 rfl ?_
    refine pm_iconst (v := 1) dX7_calls_301 (by decide) ?_
    refine pm_iconst (v := 5) dX7_calls_302 (by decide) ?_
    refine pm_vv (c_X7_failsWith G l bs A E M b Z s p 1 5 _ hm hr hI hp h02) pm_y_X7_failsWith pm_v_X7_failsWith pm_m_X7_193 (c := 7) (r := (RX7, TX7, 41)) rfl rfl hm.1 dX7_calls_303 rfl rfl (by decide) (Nat.le_of_ble_eq_true rfl) (fun S303 h303 => ?_)
    obtain ⟨M303, hm303, hr303⟩ := h303
    refine pm_goto (tgt := 382) dX7_calls_306 (by decide) ?_
    subst hQ9
    refine pm_vret dX7_calls_382 ?_
    first
    | (rw [if_neg g1] at hW; subst hW; exact ⟨M303, hm303, hr303⟩)
    | (rw [if_pos g1] at hW; subst hW; exact ⟨M376, hm376, by rw [eB]; exact hr367.reg hI367.1 hI367.b9 (by omega) hja mt376 sl376⟩)

