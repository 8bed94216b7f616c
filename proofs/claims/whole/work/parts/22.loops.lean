/-! loops over a term's row -/
/-- behind the first of a pair: from place k on, o terms still open -/
def tl_e : Nat → List Int32 → Nat → Nat → Nat
  | 0, _, k, _ => k
  | n + 1, w, k, o => if k < w.length ∧ 0 < o then (if w[k]? = some (-1) then tl_e n w (k + 1) (o + 1) else tl_e n w (k + 2) (o - 1)) else k
theorem tl_e_stop {n : Nat} {w : List Int32} {k o : Nat} (h : ¬ (k < w.length ∧ 0 < o)) : tl_e n w k o = k := by
  cases n with
  | zero => rfl
  | succ n => rw [tl_e, if_neg h]
/-- which is first: of the rows u, w from place k on, m of both -/
def tl_c : Nat → List Int32 → List Int32 → Nat → Nat → Int32
  | 0, _, _, _, _ => 0
  | n + 1, u, w, m, k => if k + 1 < m then
      (if pm_kd (u.getD k 0) = pm_kd (w.getD k 0) then
        (if pm_kd (u.getD k 0) = 3 then tl_c n u w m (k + 1)
         else if u.getD (k + 1) 0 = w.getD (k + 1) 0 then tl_c n u w m (k + 2) else if w.getD (k + 1) 0 ≤ u.getD (k + 1) 0 then 1 else -1)
       else if pm_kd (w.getD k 0) ≤ pm_kd (u.getD k 0) then 1 else -1)
    else 0
theorem tl_c_stop {n : Nat} {u w : List Int32} {m k : Nat} (h : ¬ k + 1 < m) : tl_c n u w m k = 0 := by
  cases n with
  | zero => rfl
  | succ n => rw [tl_c, if_neg h]
theorem pm_le0 {o : Nat} (h : o < 2 ^ 31) : nI o ≤ 0 ↔ o = 0 := by
  rw [show (0 : Int32) = nI 0 from rfl, nI_leI h (by omega)]
  omega
set_option maxHeartbeats 4000000 in
set_option maxRecDepth 100000 in
theorem c_X3_endOfFirst (G : pm_G) (l : Launch) (bs : Nat) (t r : Nat) (w : List Int32) (S : pm_S) (h : pm_tm S t r w) : pm_M G l bs yX3_endOfFirst cX3_endOfFirst 4 (some .int) 0 0 0 [.ref t] S (pm_qi (fun x S2 => x = nI (tl_e 95 w 1 1) ∧ S2 = S)) := by
  obtain ⟨⟨hk, hp, hkr, hnr⟩, hlen, hle, hx⟩ := h
  refine pm_Mi (L := [.ref t, pm_u, pm_u, pm_u]) (by decide +kernel) rfl (pm_en_1 rfl (pm_en_0 rfl)) ?_
  generalize hQ9 : pm_xi (fun x S2 => x = nI (tl_e 95 w 1 1) ∧ S2 = S) = Q9
  have loop : ∀ (n k o : Nat) (v : Value), 95 ≤ n + k → o + n ≤ 200 → k ≤ 97 → tl_e n w k o = tl_e 95 w 1 1 → pm_W G l bs yX3_endOfFirst.cls cX3_endOfFirst 4 false 0 0 0 Q9 4 [.ref t, .int (nI k), .int (nI o), v] [] S := by
    intro n
    induction n using Nat.strongRecOn with
    | ind n ih =>
    intro k o v h1 h2 h3 hq
    refine pm_iload_n dX3_endOfFirst_4 rfl ?_
    refine pm_aload_n dX3_endOfFirst_5 rfl ?_
    refine pm_g_Term_length (by (try simp only [pm_k_si, pm_k_sj, pm_k_sp, pm_k_sx, pm_k_sz, pm_k_sr, pm_k_sy]); assumption) pm_f_X3_15 dX3_endOfFirst_6 ?_
    refine pm_icmp_ge (tgt := 59) dX3_endOfFirst_9 (by decide) (fun h9 => ?_) (fun h9 => ?_)
    · skip
      have h8 : ¬ (k < w.length ∧ 0 < o) := fun z => by rw [hlen] at h9; have := (pm_nle (by omega) (by omega)).mp h9; omega
      refine pm_iload_n dX3_endOfFirst_59 rfl ?_
      subst hQ9
      refine pm_iret dX3_endOfFirst_60 ?_
      exact ⟨by rw [← hq, tl_e_stop h8], rfl⟩
    · skip
      have h7 : k < w.length := by rw [hlen] at h9; rcases Nat.lt_or_ge k w.length with q | q; exact q; exact absurd ((pm_nle (by omega) (by omega)).mpr q) h9
      refine pm_iload_n dX3_endOfFirst_12 rfl ?_
      refine pm_if_le (tgt := 59) dX3_endOfFirst_13 (by decide) (fun h13 => ?_) (fun h13 => ?_)
      · skip
        have h8 : ¬ (k < w.length ∧ 0 < o) := fun z => by have := (pm_le0 (by omega)).mp h13; omega
        refine pm_iload_n dX3_endOfFirst_59 rfl ?_
        subst hQ9
        refine pm_iret dX3_endOfFirst_60 ?_
        exact ⟨by rw [← hq, tl_e_stop h8], rfl⟩
      · skip
        have h8 : k < w.length ∧ 0 < o := ⟨h7, by rcases Nat.eq_zero_or_pos o with q | q; exact absurd ((pm_le0 (by omega)).mpr q) h13; exact q⟩
        obtain ⟨m, rfl⟩ : ∃ m, n = m + 1 := ⟨n - 1, by omega⟩
        rw [tl_e, if_pos h8, hx k h7] at hq
        refine pm_aload_n dX3_endOfFirst_16 rfl ?_
        refine pm_g_Term_row (by (try simp only [pm_k_si, pm_k_sj, pm_k_sp, pm_k_sx, pm_k_sz, pm_k_sr, pm_k_sy]); assumption) pm_f_X3_11 (by (try simp only [pm_p_si, pm_p_sj, pm_p_sx, pm_p_sz, pm_p_sr, pm_p_sy]); assumption) dX3_endOfFirst_17 ?_
        refine pm_iload_n dX3_endOfFirst_20 rfl ?_
        refine pm_iaload (n := k) (by (try simp only [pm_k_si, pm_k_sj, pm_k_sp, pm_k_sx, pm_k_sz, pm_k_sr, pm_k_sy]); assumption) rfl (by first | omega | (simp only [pm_n_sx, pm_n_si, pm_n_sr, pm_n_sz, pm_n_sp, pm_n_sj, pm_n_sy]; omega)) (by first | omega | (simp only [pm_n_sx, pm_n_si, pm_n_sr, pm_n_sz, pm_n_sp, pm_n_sj, pm_n_sy]; omega)) dX3_endOfFirst_21 ?_
        refine pm_iconst (v := (-1)) dX3_endOfFirst_22 (by decide) ?_
        refine pm_icmp_ne (tgt := 30) dX3_endOfFirst_23 (by decide) (fun h23 => ?_) (fun h23 => ?_)
        · skip
          rw [if_neg (fun z => h23 (Option.some.inj z))] at hq
          refine pm_iconst (v := 0) dX3_endOfFirst_30 (by decide) ?_
          refine pm_istn dX3_endOfFirst_31 (i := 3) rfl (by decide) ?_
          dsimp only [List.set]
          refine pm_iload_n dX3_endOfFirst_32 rfl ?_
          refine pm_iload_n dX3_endOfFirst_33 rfl ?_
          refine pm_if_eq (tgt := 41) dX3_endOfFirst_34 (by decide) (fun h34 => ?_) (fun h34 => ?_)
          case refine_2 => exact absurd (by decide) h34
          refine pm_iconst (v := (-1)) dX3_endOfFirst_41 (by decide) ?_
          refine pm_iadd dX3_endOfFirst_42 ?_
          refine pm_istn dX3_endOfFirst_43 (i := 2) rfl (by decide) ?_
          dsimp only [List.set]
          refine pm_iload_n dX3_endOfFirst_44 rfl ?_
          refine pm_iload_n dX3_endOfFirst_45 rfl ?_
          refine pm_if_eq (tgt := 53) dX3_endOfFirst_46 (by decide) (fun h46 => ?_) (fun h46 => ?_)
          case refine_2 => exact absurd (by decide) h46
          refine pm_iconst (v := 2) dX3_endOfFirst_53 (by decide) ?_
          refine pm_iadd dX3_endOfFirst_54 ?_
          refine pm_istn dX3_endOfFirst_55 (i := 1) rfl (by decide) ?_
          dsimp only [List.set]
          refine pm_goto (tgt := 4) dX3_endOfFirst_56 (by decide) ?_
          first | (rw [show nI o + 1 = nI (o + 1) from nI_1 _, show nI k + 1 = nI (k + 1) from nI_1 _]; exact ih m (by omega) (k + 1) (o + 1) _ (by omega) (by omega) (by omega) hq) | (rw [show nI o + (-1) = nI (o - 1) from sb_m1 h8.2, show nI k + 2 = nI (k + 2) from nI_add k 2]; exact ih m (by omega) (k + 2) (o - 1) _ (by omega) (by omega) (by omega) hq)
        · skip
          rw [if_pos (by rw [h23])] at hq
          refine pm_iconst (v := 1) dX3_endOfFirst_26 (by decide) ?_
          refine pm_goto (tgt := 31) dX3_endOfFirst_27 (by decide) ?_
          refine pm_istn dX3_endOfFirst_31 (i := 3) rfl (by decide) ?_
          dsimp only [List.set]
          refine pm_iload_n dX3_endOfFirst_32 rfl ?_
          refine pm_iload_n dX3_endOfFirst_33 rfl ?_
          refine pm_if_eq (tgt := 41) dX3_endOfFirst_34 (by decide) (fun h34 => ?_) (fun h34 => ?_)
          case refine_1 => exact absurd h34 (by decide)
          refine pm_iconst (v := 1) dX3_endOfFirst_37 (by decide) ?_
          refine pm_goto (tgt := 42) dX3_endOfFirst_38 (by decide) ?_
          refine pm_iadd dX3_endOfFirst_42 ?_
          refine pm_istn dX3_endOfFirst_43 (i := 2) rfl (by decide) ?_
          dsimp only [List.set]
          refine pm_iload_n dX3_endOfFirst_44 rfl ?_
          refine pm_iload_n dX3_endOfFirst_45 rfl ?_
          refine pm_if_eq (tgt := 53) dX3_endOfFirst_46 (by decide) (fun h46 => ?_) (fun h46 => ?_)
          case refine_1 => exact absurd h46 (by decide)
          refine pm_iconst (v := 1) dX3_endOfFirst_49 (by decide) ?_
          refine pm_goto (tgt := 54) dX3_endOfFirst_50 (by decide) ?_
          refine pm_iadd dX3_endOfFirst_54 ?_
          refine pm_istn dX3_endOfFirst_55 (i := 1) rfl (by decide) ?_
          dsimp only [List.set]
          refine pm_goto (tgt := 4) dX3_endOfFirst_56 (by decide) ?_
          first | (rw [show nI o + 1 = nI (o + 1) from nI_1 _, show nI k + 1 = nI (k + 1) from nI_1 _]; exact ih m (by omega) (k + 1) (o + 1) _ (by omega) (by omega) (by omega) hq) | (rw [show nI o + (-1) = nI (o - 1) from sb_m1 h8.2, show nI k + 2 = nI (k + 2) from nI_add k 2]; exact ih m (by omega) (k + 2) (o - 1) _ (by omega) (by omega) (by omega) hq)
  refine pm_iconst (v := 1) dX3_endOfFirst_0 (by decide) ?_
  refine pm_istn dX3_endOfFirst_1 (i := 1) rfl (by decide) ?_
  dsimp only [List.set]
  refine pm_iconst (v := 1) dX3_endOfFirst_2 (by decide) ?_
  refine pm_istn dX3_endOfFirst_3 (i := 2) rfl (by decide) ?_
  dsimp only [List.set]
  exact loop 95 1 1 _ (by omega) (by omega) (by omega) rfl

set_option maxHeartbeats 4000000 in
set_option maxRecDepth 100000 in
theorem c_J9_min (G : pm_G) (l : Launch) (bs : Nat) (a b : Int32) (S : pm_S)  : pm_M G l bs yJ9_min_7cf53 cJ9_min_7cf53 2 (some .int) 0 0 0 [.int a, .int b] S (pm_qi (fun x S2 => x = (if a ≤ b then a else b) ∧ S2 = S)) := by
  refine pm_Mi (L := [.int a, .int b]) (by decide +kernel) rfl (pm_en_1 rfl (pm_en_1 rfl (pm_en_0 rfl))) ?_
  generalize hQ9 : pm_xi (fun x S2 => x = (if a ≤ b then a else b) ∧ S2 = S) = Q9
  refine pm_iload_n dJ9_min_7cf53_0 rfl ?_
  refine pm_iload_n dJ9_min_7cf53_1 rfl ?_
  refine pm_icmp_gt (tgt := 9) dJ9_min_7cf53_2 (by decide) (fun h2 => ?_) (fun h2 => ?_)
  · skip
    refine pm_iload_n dJ9_min_7cf53_9 rfl ?_
    subst hQ9
    refine pm_iret dJ9_min_7cf53_10 ?_
    refine ⟨?_, rfl⟩
    first | (rw [if_pos (Int32.not_lt.mp h2)]; done) | (rw [if_neg (Int32.not_le.mpr h2)]; done)
  · skip
    refine pm_iload_n dJ9_min_7cf53_5 rfl ?_
    refine pm_goto (tgt := 10) dJ9_min_7cf53_6 (by decide) ?_
    subst hQ9
    refine pm_iret dJ9_min_7cf53_10 ?_
    refine ⟨?_, rfl⟩
    first | (rw [if_pos (Int32.not_lt.mp h2)]; done) | (rw [if_neg (Int32.not_le.mpr h2)]; done)

/-- rounded down -/
def pm_mod (x : Int32) (d : Nat) : Nat := (x.toInt % (d : Int)).toNat
theorem pm_mod_lt (x : Int32) {d : Nat} (h : 0 < d) : pm_mod x d < d := by
  have h1 := Int.emod_lt_of_pos x.toInt (show (0 : Int) < d by omega)
  have h2 := Int.emod_nonneg x.toInt (show (d : Int) ≠ 0 by omega)
  unfold pm_mod
  omega
theorem pm_rng (x : Int32) : -2147483648 ≤ x.toInt ∧ x.toInt < 2147483648 := ⟨Int32.le_toInt x, Int32.toInt_lt x⟩
theorem pm_rem (x : Int32) {d : Nat} (h0 : 0 < d) (hd : d < 2 ^ 31) : (x - x / nI d * nI d).toInt = x.toInt.tmod d := by
  have hx := pm_rng x
  have ed : (nI d).toInt = (d : Int) := nI_toInt hd
  have hdef : x.toInt.tmod d = x.toInt - d * x.toInt.tdiv d := Int.tmod_def _ _
  have hb1 := Int.natAbs_tdiv_le_natAbs x.toInt (d : Int)
  have hm1 : (x.toInt.tmod d).natAbs < d := by
    rw [Int.natAbs_tmod]
    exact Nat.mod_lt _ h0
  have hm2 : (x.toInt.tmod d).natAbs ≤ x.toInt.natAbs := by
    rw [Int.natAbs_tmod]
    exact Nat.mod_le _ _
  have hsg : (0 ≤ x.toInt → 0 ≤ x.toInt.tmod d) ∧ (x.toInt ≤ 0 → x.toInt.tmod d ≤ 0) := by
    refine ⟨fun q => Int.tmod_nonneg _ q, fun q => ?_⟩
    have := Int.tmod_nonneg (d : Int) (show 0 ≤ -x.toInt by omega)
    rw [Int.neg_tmod] at this
    omega
  have q1 : (x / nI d).toInt = x.toInt.tdiv d := by
    rw [Int32.toInt_div, ed]
    by_cases e : x.toInt.tdiv d = 2147483648
    · exfalso
      rw [e] at hdef
      omega
    · exact Int.bmod_eq_of_le (by omega) (by omega)
  rw [Int32.toInt_sub, Int32.toInt_mul, q1, ed, Int.mul_comm (x.toInt.tdiv d) (d : Int)]
  have q2 : (d : Int) * x.toInt.tdiv d = x.toInt - x.toInt.tmod d := by omega
  rw [q2, Int.bmod_eq_of_le (m := 2 ^ 32) (n := x.toInt - x.toInt.tmod d) (by omega) (by omega), show x.toInt - (x.toInt - x.toInt.tmod d) = x.toInt.tmod d by omega]
  exact Int.bmod_eq_of_le (by omega) (by omega)
theorem pm_sgn {x y : Int32} {d : Nat} (hy : y.toInt = x.toInt.tmod d) : (¬ x < 0 → ¬ y < 0) ∧ (x < 0 → ¬ y = 0 → y < 0) := by
  have hsg : (0 ≤ x.toInt → 0 ≤ x.toInt.tmod d) ∧ (x.toInt ≤ 0 → x.toInt.tmod d ≤ 0) := by
    refine ⟨fun q => Int.tmod_nonneg _ q, fun q => ?_⟩
    have := Int.tmod_nonneg (d : Int) (show 0 ≤ -x.toInt by omega)
    rw [Int.neg_tmod] at this
    omega
  rw [pm_lt0, pm_lt0, hy]
  refine ⟨fun q => ?_, fun q z => ?_⟩
  · have := hsg.1 (by omega)
    omega
  · have := hsg.2 (by omega)
    have h0 : ¬ x.toInt.tmod d = 0 := fun e => z (Int32.toInt_inj.mp (by rw [hy, e]; rfl))
    omega
theorem pm_xneg (x : Int32) {d : Nat} (hd : d < 2 ^ 31) : (x ^^^ nI d) < 0 ↔ x < 0 := by
  have e : (nI d).toBitVec.msb = false := by
    rw [BitVec.msb_eq_toInt]
    have : (nI d).toBitVec.toInt = (d : Int) := nI_toInt hd
    rw [this]
    exact decide_eq_false (by omega)
  have h : ∀ y : Int32, y < 0 ↔ y.toBitVec.msb = true := by
    intro y
    rw [pm_lt0, BitVec.msb_eq_toInt, decide_eq_true_eq]
    exact Iff.rfl
  rw [h, h, Int32.toBitVec_xor, BitVec.msb_xor, e, Bool.xor_false]
theorem pm_mod_of {x y : Int32} {d : Nat} (h0 : 0 < d) (hd : d < 2 ^ 31) (hy : y.toInt = x.toInt.tmod d) : (¬ y < 0 → y = nI (pm_mod x d)) ∧ (y < 0 → y + nI d = nI (pm_mod x d)) := by
  have h1 : (x.toInt.tmod d).natAbs < d := by
    rw [Int.natAbs_tmod]
    exact Nat.mod_lt _ h0
  have h3 := Int.emod_nonneg x.toInt (show (d : Int) ≠ 0 by omega)
  have h4 := Int.emod_lt_of_pos x.toInt (show (0 : Int) < d by omega)
  have hk : ∃ k : Int, x.toInt % d = x.toInt.tmod d + d * k := ⟨x.toInt.tdiv d - x.toInt / d, by
    have a1 := Int.tmod_def x.toInt d
    have a2 := Int.emod_def x.toInt d
    rw [a1, a2, Int.mul_sub]
    omega⟩
  obtain ⟨k, hk⟩ := hk
  refine ⟨fun q => ?_, fun q => ?_⟩
  · rw [pm_lt0] at q
    have e : x.toInt % d = x.toInt.tmod d := by
      have : k = 0 := by
        rcases (show k < 0 ∨ 0 ≤ k by omega) with z | z
        · have : (d : Int) * k ≤ d * (-1) := Int.mul_le_mul_of_nonneg_left (by omega) (by omega)
          omega
        · rcases (show 0 < k ∨ k ≤ 0 by omega) with z | z
          · have : (d : Int) * 1 ≤ d * k := Int.mul_le_mul_of_nonneg_left (by omega) (by omega)
            omega
          · omega
      rw [hk, this]
      omega
    refine Int32.toInt_inj.mp ?_
    rw [nI_toInt (by have := pm_mod_lt x h0; omega), hy, ← e]
    unfold pm_mod
    omega
  · rw [pm_lt0] at q
    have e : x.toInt % d = x.toInt.tmod d + d := by
      have : k = 1 := by
        rcases (show k < 1 ∨ 1 ≤ k by omega) with z | z
        · have : (d : Int) * k ≤ d * 0 := Int.mul_le_mul_of_nonneg_left (by omega) (by omega)
          omega
        · rcases (show 1 < k ∨ k ≤ 1 by omega) with z | z
          · have : (d : Int) * 2 ≤ d * k := Int.mul_le_mul_of_nonneg_left (by omega) (by omega)
            omega
          · omega
      rw [hk, this]
      omega
    refine Int32.toInt_inj.mp ?_
    rw [nI_toInt (by have := pm_mod_lt x h0; omega), Int32.toInt_add, nI_toInt hd, hy, ← e, Int.bmod_eq_of_le (by omega) (by omega)]
    unfold pm_mod
    omega
set_option maxHeartbeats 4000000 in
set_option maxRecDepth 100000 in
theorem c_J9_floorMod (G : pm_G) (l : Launch) (bs : Nat) (a : Int32) (b : Nat) (S : pm_S) (h0 : 0 < b) (hb : b < 2 ^ 31) : pm_M G l bs yJ9_floorMod_7cf53 cJ9_floorMod_7cf53 3 (some .int) 0 0 0 [.int a, .int (nI b)] S (pm_qi (fun x S2 => x = nI (pm_mod a b) ∧ S2 = S)) := by
  refine pm_Mi (L := [.int a, .int (nI b), pm_u]) (by decide +kernel) rfl (pm_en_1 rfl (pm_en_1 rfl (pm_en_0 rfl))) ?_
  generalize hQ9 : pm_xi (fun x S2 => x = nI (pm_mod a b) ∧ S2 = S) = Q9
  refine pm_iload_n dJ9_floorMod_7cf53_0 rfl ?_
  refine pm_iload_n dJ9_floorMod_7cf53_1 rfl ?_
  refine pm_irem dJ9_floorMod_7cf53_2 (nI_ne0 h0 hb) ?_
  obtain ⟨y, hy⟩ : ∃ y, y = a - a / nI b * nI b := ⟨_, rfl⟩
  rw [← hy]
  have hg := pm_sgn (x := a) (y := y) (d := b) (by rw [hy]; exact pm_rem a h0 hb)
  have hm := pm_mod_of (x := a) (y := y) h0 hb (by rw [hy]; exact pm_rem a h0 hb)
  refine pm_istn dJ9_floorMod_7cf53_3 (i := 2) rfl (by decide) ?_
  dsimp only [List.set]
  refine pm_iload_n dJ9_floorMod_7cf53_4 rfl ?_
  refine pm_iload_n dJ9_floorMod_7cf53_5 rfl ?_
  refine pm_ixor dJ9_floorMod_7cf53_6 ?_
  refine pm_if_ge (tgt := 18) dJ9_floorMod_7cf53_7 (by decide) (fun h7 => ?_) (fun h7 => ?_)
  · skip
    have h5 : ¬ y < 0 := hg.1 (fun z => Int32.not_lt.mpr h7 ((pm_xneg a hb).mpr z))
    refine pm_iload_n dJ9_floorMod_7cf53_18 rfl ?_
    subst hQ9
    refine pm_iret dJ9_floorMod_7cf53_19 ?_
    refine ⟨?_, rfl⟩
    first | exact hm.1 h5 | exact hm.2 h5
  · skip
    have h6 : a < 0 := (pm_xneg a hb).mp (Int32.not_le.mp h7)
    refine pm_iload_n dJ9_floorMod_7cf53_10 rfl ?_
    refine pm_if_eq (tgt := 18) dJ9_floorMod_7cf53_11 (by decide) (fun h11 => ?_) (fun h11 => ?_)
    · skip
      have h5 : ¬ y < 0 := by rw [h11]; decide
      refine pm_iload_n dJ9_floorMod_7cf53_18 rfl ?_
      subst hQ9
      refine pm_iret dJ9_floorMod_7cf53_19 ?_
      refine ⟨?_, rfl⟩
      first | exact hm.1 h5 | exact hm.2 h5
    · skip
      have h5 : y < 0 := hg.2 h6 h11
      refine pm_iload_n dJ9_floorMod_7cf53_14 rfl ?_
      refine pm_iload_n dJ9_floorMod_7cf53_15 rfl ?_
      refine pm_iadd dJ9_floorMod_7cf53_16 ?_
      subst hQ9
      refine pm_iret dJ9_floorMod_7cf53_17 ?_
      refine ⟨?_, rfl⟩
      first | exact hm.1 h5 | exact hm.2 h5

