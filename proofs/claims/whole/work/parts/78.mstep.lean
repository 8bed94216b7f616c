/-! the reference: a step -/
theorem zFails_a2 (Z : az) (p : Nat) (w : List Int32) : az_a (zFails Z p w) 2 = az_a Z 2 := by
  unfold zFails
  split
  · exact zDies_a2 _ _ _
  · rfl
theorem zWord_a2 (Z : az) (p op : Nat) (a b c : Int32) : az_a (zWord Z p op a b c) 2 = az_a Z 2 := by
  have ed := zDies_a2
  have ef := zFails_a2
  have ec := fun (Z : az) p w => zComes_a Z p w 2 (by decide) (by decide)
  have ee := zExit_a2
  unfold zWord
  dsimp only
  split
  · exact ed _ _ _
  · rfl
  · rfl
  · rfl
  · split
    · rfl
    · exact ef _ _ _
  · split
    · rfl
    · exact ef _ _ _
  · split
    · rfl
    · exact ef _ _ _
  · split
    · rfl
    · exact ef _ _ _
  · split
    · rfl
    · exact ef _ _ _
  · split
    · rfl
    · exact ef _ _ _
  · rfl
  · rfl
  · split
    · rfl
    · rfl
  · split
    · rfl
    · rfl
  · split
    · rfl
    · rfl
  · split
    · rfl
    · exact ef _ _ _
  · split
    · exact ed _ _ _
    · rfl
  · split
    · rfl
    · exact ef _ _ _
  · split
    · rfl
    · rfl
  · exact ef _ _ _
  · rfl
  · split
    · rfl
    · exact ef _ _ _
  · split
    · rfl
    · exact ef _ _ _
  · split
    · exact ec _ _ _
    · split
      · split
        · split
          · exact ec _ _ _
          · rfl
        · rfl
      · exact ef _ _ _
  · split
    · rfl
    · rfl
  · show az_a (if _ then _ else Z) 2 = _; split <;> rfl
  · split
    · rfl
    · rfl
  · split
    · rfl
    · rfl
  · split
    · rfl
    · split
      · exact ef _ _ _
      · split
        · rfl
        · rfl
  · split
    · exact ef _ _ _
    · split
      · exact ee _ _ _ _ _
      · split
        · rfl
        · rfl
  · split
    · exact ef _ _ _
    · rfl
  · split
    · exact ef _ _ _
    · split
      · exact ef _ _ _
      · split
        · exact ec _ _ _
        · rfl
  · split
    · exact ef _ _ _
    · exact ee _ _ _ _ _
  · rfl
  · split
    · rfl
    · exact ef _ _ _
  · split
    · rfl
    · rfl
  · exact ((zPrint_get _ Z).1 2).trans (if_neg (by decide))
/-- one that does not wait keeps its turn, and does not begin to wait -/
def z5 (p : Nat) (Z W : az) : Prop := az_b Z 1 p ≠ 1 → az_b W 1 p ≠ 1 ∧ az_b W 5 p = az_b Z 5 p
theorem z5.rf {p : Nat} {Z : az} : z5 p Z Z := fun h => ⟨h, rfl⟩
theorem z5.tr {p : Nat} {Z W X : az} (h1 : z5 p Z W) (h2 : z5 p W X) : z5 p Z X := fun h => ⟨(h2 (h1 h).1).1, (h2 (h1 h).1).2.trans (h1 h).2⟩
theorem z5.of {p : Nat} {Z W : az} (h1 : az_b W 1 p = az_b Z 1 p) (h5 : az_b W 5 p = az_b Z 5 p) : z5 p Z W := fun h => ⟨by rw [h1]; exact h, h5⟩
theorem z5_comes {p q : Nat} {Z : az} {w : List Int32} : z5 p Z (zComes Z q w) := fun h => by
  have e1 : az_b (zCm Z q w) 1 p = az_b Z 1 p := by unfold zCm; rw [z_b_a, z_b_bne (by decide), z_b_bne (by decide), z_b_t]
  have e5 : az_b (zCm Z q w) 5 p = az_b Z 5 p := by unfold zCm; rw [z_b_a, z_b_bne (by decide), z_b_bne (by decide), z_b_t]
  rw [zComes_eq]
  split
  · split
    · rename_i g
      have hpq : p ≠ q := fun z => h (by rw [z]; exact g)
      unfold zReady zTurn
      rw [z_b_a, z_b_bne (by decide), z_b_e, z_b_bne (by decide), z_b_b, if_neg (fun z => hpq z.2), z_b_a, z_b_b, if_neg (fun z => hpq z.2), z_b_e, z_b_bne (by decide), z_b_bne (by decide), e1, e5]
      exact ⟨h, rfl⟩
    · rw [e1, e5]; exact ⟨h, rfl⟩
  · exact ⟨h, rfl⟩
theorem zDies_5 (Z : az) (p : Nat) (w : List Int32) (q : Nat) : az_b (zDies Z p w) 5 q = az_b Z 5 q := by
  have e : ∀ Z1 : az, az_b (zs_b (zs_b (zs_b (zs_b (zs_b (zs_t Z1 1 p 0 w) 1 p 2) 9 p 0) 10 p 0) 7 p 0) 8 p 0) 5 q = az_b Z1 5 q := fun Z1 => by
    rw [z_b_bne (by decide), z_b_bne (by decide), z_b_bne (by decide), z_b_bne (by decide), z_b_bne (by decide), z_b_t]
  unfold zDies
  dsimp only
  rw [z_b_a, z_b_c, z_b_w]
  cases az_e Z 0 p with
  | none => exact e Z
  | some n => exact e (zs_e (zs_e Z 2 n none) 0 p none)
theorem z5_dies {p q : Nat} {Z : az} {w : List Int32} : z5 p Z (zDies Z q w) := fun h => ⟨by rw [zDies_1]; split; decide; exact h, zDies_5 _ _ _ _⟩
theorem z5_fails {p q : Nat} {Z : az} {w : List Int32} : z5 p Z (zFails Z q w) := by
  unfold zFails
  split
  · exact z5_dies
  · exact z5.of (by rw [z_b_t, z_b_bne (by decide), z_b_bne (by decide), z_b_bne (by decide)]) (by rw [z_b_t, z_b_bne (by decide), z_b_bne (by decide), z_b_bne (by decide)])
theorem z5_exit {p q r : Nat} {Z : az} {w : List Int32} {c : Bool} : z5 p Z (zExit Z q r w c) := by
  unfold zExit
  split
  · exact z5.rf
  · split
    · exact z5_dies
    · split
      · exact z5_comes
      · split
        · exact z5.rf
        · exact z5_dies
theorem z5_tellL {p : Nat} : ∀ (k : Nat) (Z : az) (r q : Nat), z5 p Z (zTellL k Z r q)
  | 0, _, _, _ => z5.rf
  | k + 1, Z, r, q => by
    unfold zTellL
    refine z5.tr ?_ (z5_tellL k _ _ _)
    split
    · exact z5.tr (W := zLink Z r q false) (z5.of rfl rfl) z5_exit
    · exact z5.rf
theorem z5_tellW {p : Nat} : ∀ (l : List (Nat × Nat × Nat)) (Z : az) (r : Nat), z5 p Z (zTellW l Z r)
  | [], _, _ => z5.rf
  | t :: l, Z, r => by
    unfold zTellW
    refine z5.tr ?_ (z5_tellW l _ _)
    split
    · exact z5_comes
    · exact z5.rf
theorem z5_tell {p : Nat} {Z : az} {r : Nat} : z5 p Z (zTell Z r) := by
  unfold zTell
  dsimp only
  exact z5.tr (z5.tr (z5_tellL _ _ _ _) (z5_tellW _ _ _)) (z5.of rfl rfl)
theorem z5_spread {p : Nat} : ∀ (k : Nat) (Z : az), z5 p Z (zSpread k Z)
  | 0, _ => z5.rf
  | k + 1, Z => by
    unfold zSpread
    split
    · exact z5.tr (z5.tr (W := zs_a Z 2 (az_a Z 2 + 1)) (z5.of rfl rfl) z5_tell) (z5_spread k _)
    · exact z5.rf
theorem zSpread_id {k : Nat} {Z : az} (h : az_a Z 2 = az_a Z 1) : zSpread k Z = Z := by
  cases k with
  | zero => rfl
  | succ k => unfold zSpread; rw [if_neg (by omega)]
theorem z5_b {p i q v : Nat} {Z : az} (h1 : i ≠ 1) (h5 : i ≠ 5) : z5 p Z (zs_b Z i q v) := z5.of (z_b_bne (Ne.symm h1)) (z_b_bne (Ne.symm h5))
theorem z5_new {p a pr : Nat} {Z : az} (hp : p < az_a Z 0) : z5 p Z (zNew Z a pr) := z5.of (zNew_bo (by omega)) (zNew_bo (by omega))
/-- a word of p: it keeps its turn, or it waits and nobody has died -/
theorem z5_word {Z : az} {p op : Nat} {a b c : Int32} (hp : p < az_a Z 0) (h0 : az_b Z 1 p = 0) : z5 p Z (zWord Z p op a b c) ∨ (az_b (zWord Z p op a b c) 1 p = 1 ∧ az_a (zWord Z p op a b c) 1 = az_a Z 1) := by
  have eb : ∀ i v, i ≠ 1 → i ≠ 5 → z5 p Z (zs_b Z i p v) := fun i v h1 h5 => z5_b h1 h5
  have ww : ∀ a c r, az_b (zs_e (zs_b (zs_b (zs_b Z 1 p 1) 3 p a) 4 p c) 1 p r) 1 p = 1 := fun a c r => by rw [zW_b, if_neg (fun z => by omega), if_neg (fun z => by omega), if_pos ⟨rfl, rfl⟩]
  unfold zWord
  dsimp only
  split
  · exact Or.inl (z5_dies)
  · exact Or.inl (z5.of rfl rfl)
  · exact Or.inl (z5.of rfl rfl)
  · exact Or.inl (z5.of rfl rfl)
  · split
    · exact Or.inl (z5.of rfl rfl)
    · exact Or.inl (z5_fails)
  · split
    · exact Or.inl (z5.of rfl rfl)
    · exact Or.inl (z5_fails)
  · split
    · exact Or.inl (z5.of rfl rfl)
    · exact Or.inl (z5_fails)
  · split
    · exact Or.inl (z5.of rfl rfl)
    · exact Or.inl (z5_fails)
  · split
    · exact Or.inl (z5.of rfl rfl)
    · exact Or.inl (z5_fails)
  · split
    · exact Or.inl (z5.of rfl rfl)
    · exact Or.inl (z5_fails)
  · exact Or.inl (z5.of rfl rfl)
  · exact Or.inl (z5_b (by decide) (by decide))
  · split
    · exact Or.inl (z5_b (by decide) (by decide))
    · exact Or.inl (z5.rf)
  · split
    · exact Or.inl (z5_b (by decide) (by decide))
    · exact Or.inl (z5.rf)
  · split
    · exact Or.inl (z5_b (by decide) (by decide))
    · exact Or.inl (z5.rf)
  · split
    · exact Or.inl (z5.of (by unfold zAt; rw [z_b_bne (by decide), z_b_bne (by decide)]; rfl) (by unfold zAt; rw [z_b_bne (by decide), z_b_bne (by decide)]; rfl))
    · exact Or.inl (z5_fails)
  · split
    · exact Or.inl (z5_dies)
    · exact Or.inl (z5.of (by unfold zAt; rw [z_b_bne (by decide), z_b_bne (by decide)]) (by unfold zAt; rw [z_b_bne (by decide), z_b_bne (by decide)]))
  · split
    · exact Or.inl (z5.of (by rw [z_b_bne (by decide)]; rfl) (by rw [z_b_bne (by decide)]; rfl))
    · exact Or.inl (z5_fails)
  · split
    · exact Or.inl (z5.rf)
    · exact Or.inl (z5_b (by decide) (by decide))
  · exact Or.inl (z5_fails)
  · exact Or.inl (z5.of rfl rfl)
  · split
    · exact Or.inl (z5.tr (z5_new hp) (z5.of rfl rfl))
    · exact Or.inl (z5_fails)
  · split
    · exact Or.inl (z5.tr (z5_new hp) (z5.of rfl rfl))
    · exact Or.inl (z5_fails)
  · split
    · exact Or.inl (z5_comes)
    · split
      · split
        · split
          · exact Or.inl (z5_comes)
          · exact Or.inl (z5.rf)
        · exact Or.inl (z5.rf)
      · exact Or.inl (z5_fails)
  · split
    · exact Or.inl (z5.of rfl rfl)
    · exact Or.inl (z5_b (by decide) (by decide))
  · refine Or.inl (z5.tr (W := (if az_b Z 10 p < az_b Z 9 p then zs_b (zs_m Z p (fun k => if k < az_b Z 10 p then az_t Z 2 p k else az_t Z 2 p (k + 1))) 9 p (az_b Z 9 p - 1) else Z)) ?_ (z5_b (by decide) (by decide)))
    split
    · exact z5.of (by rw [z_b_bne (by decide)]; rfl) (by rw [z_b_bne (by decide)]; rfl)
    · exact z5.rf
  · split
    · exact Or.inl (z5_b (by decide) (by decide))
    · exact Or.inl (z5.rf)
  · split
    · exact Or.inl (z5_b (by decide) (by decide))
    · exact Or.inr ⟨ww _ _ _, rfl⟩
  · split
    · exact Or.inl (z5_b (by decide) (by decide))
    · split
      · exact Or.inl (z5_fails)
      · split
        · exact Or.inl (z5.of (by unfold zAt; rw [z_b_bne (by decide), z_b_bne (by decide)]) (by unfold zAt; rw [z_b_bne (by decide), z_b_bne (by decide)]))
        · exact Or.inr ⟨ww _ _ _, rfl⟩
  · split
    · exact Or.inl (z5_fails)
    · split
      · exact Or.inl (z5_exit)
      · split
        · exact Or.inl (z5.rf)
        · exact Or.inl (z5.of rfl rfl)
  · split
    · exact Or.inl (z5_fails)
    · exact Or.inl (z5.of rfl rfl)
  · split
    · exact Or.inl (z5_fails)
    · split
      · exact Or.inl (z5_fails)
      · split
        · unfold zDown; exact Or.inl (z5.tr (W := zs_t (zs_a Z 8 (az_a Z 8 + 1)) 0 p (pm_mod a 8) [0, nI (az_a Z 8 + 1)]) (z5.of rfl rfl) z5_comes)
        · exact Or.inl (z5.of rfl rfl)
  · split
    · exact Or.inl (z5_fails)
    · exact Or.inl (z5_exit)
  · exact Or.inl (z5_b (by decide) (by decide))
  · split
    · exact Or.inl (z5.of rfl rfl)
    · exact Or.inl (z5_fails)
  · split
    · exact Or.inl (z5.of rfl rfl)
    · exact Or.inl (z5.of rfl rfl)
  · exact Or.inl (z5.of (by rw [(zPrint_get _ Z).2.1]) (by rw [(zPrint_get _ Z).2.1]))
theorem z5_step {s : Nat} {Z : az} {p : Nat} (hp : p < az_a Z 0) (h0 : az_b Z 1 p = 0) (h2 : az_a Z 2 = az_a Z 1) (h : az_b (zStep Z p) 1 p = 0) : az_b (zStep Z p) 5 p = az_b Z 5 p := by
  have t1 : az_b (zTick Z p) 1 p = 0 := (zTick_1 Z p p).trans h0
  have t5 : az_b (zTick Z p) 5 p = az_b Z 5 p := by unfold zTick; rw [z_b_a, z_b_bne (by decide), z_b_bne (by decide)]
  rw [zStep_eq] at h ⊢
  rcases z5_word (Z := zTick Z p) (p := p) (op := (az_x Z 0 (4 * az_b Z 2 p)).toInt.toNat) (a := az_x Z 0 (4 * az_b Z 2 p + 1)) (b := az_x Z 0 (4 * az_b Z 2 p + 2)) (c := az_x Z 0 (4 * az_b Z 2 p + 3)) hp t1 with q | ⟨q1, q2⟩
  · rw [← t5]
    exact ((z5.tr q (z5_spread 60 _)) (by rw [t1]; decide)).2
  · have e : zSpread 60 (zWd Z p) = zWd Z p := zSpread_id (by
      have := zWord_a2 (zTick Z p) p (az_x Z 0 (4 * az_b Z 2 p)).toInt.toNat (az_x Z 0 (4 * az_b Z 2 p + 1)) (az_x Z 0 (4 * az_b Z 2 p + 2)) (az_x Z 0 (4 * az_b Z 2 p + 3))
      exact this.trans (h2.trans q2.symm))
    rw [e] at h
    have q1 : az_b (zWd Z p) 1 p = 1 := q1
    rw [q1] at h
    cases h
set_option maxHeartbeats 4000000 in
set_option maxRecDepth 100000 in
theorem c_X7_step (G : pm_G) (l : Launch) (bs : Nat) (A : Nat → Nat) (E : pm_S) (M : pm_N) (b : Nat) (Z : az) (s : Nat) (p : Nat) (S : pm_S) (hm : pm_MX M S A E) (hr : mR b Z M) (hI : zI s Z) (hb : b = az_a Z 2) (hp : p < az_a Z 0) (h0 : az_b Z 1 p = 0) (hO : zOps Z) (hq : az_a Z 5 + 1 < 16777216) : pm_M G l bs yX7_step cX7_step 9 none 7 0 0 [.ref (A 50), .int (nI p)] S (pm_qv (fun S2 => ∃ M2, pm_MX M2 S2 A E ∧ mR (az_a (zStep Z p) 1) (zStep Z p) M2)) := by
  have hn := hI.1
  have hsm := hI.sm
  have b2 : az_b Z 2 p ≤ 299 := hI.b hp 2
  obtain ⟨n9, hn9, en9⟩ := hO (az_b Z 2 p) (by omega)
  have hIt := (hI.tick (p := p) hq).1.down (t := s) (by omega)
  have h0t : az_b (zTick Z p) 1 p = 0 := (zTick_1 Z p p).trans h0
  obtain ⟨hIw, hLw⟩ := hI.wd hp h0 hq
  have eW : zWord (zTick Z p) p n9 (az_x Z 0 (4 * az_b Z 2 p + 1)) (az_x Z 0 (4 * az_b Z 2 p + 2)) (az_x Z 0 (4 * az_b Z 2 p + 3)) = zWd Z p := by unfold zWd; rw [en9, nI_toInt (by omega), Int.toNat_natCast]
  refine pm_Mv (L := [.ref (A 50), .int (nI p), pm_u, pm_u, pm_u, pm_u, pm_u, pm_u, pm_u]) false (by decide +kernel) (fun h => by cases h) rfl (pm_en_1 rfl (pm_en_1 rfl (pm_en_0 rfl))) ?_
  generalize hQ9 : pm_xv (fun S2 => ∃ M2, pm_MX M2 S2 A E ∧ mR (az_a (zStep Z p) 1) (zStep Z p) M2) = Q9
  refine pm_aload_n dX7_step_0 rfl ?_
  refine pm_g_Model_place hm.1 pm_f_X7_32 (hm.2.1 7 (by decide)).1 dX7_step_1 ?_
  refine pm_iload_n dX7_step_4 rfl ?_
  refine mm_iaload (n := _) hm (by decide) rfl (by show _ < 60; omega) dX7_step_5 ?_
  rw [hr.B (i := 2) hp rfl]
  refine pm_istn dX7_step_6 (i := 2) rfl (by decide) ?_
  dsimp only [List.set]
  refine pm_aload_n dX7_step_7 rfl ?_
  refine pm_g_Model_operations hm.1 pm_f_X7_17 (hm.2.1 2 (by decide)).1 dX7_step_8 ?_
  refine pm_iload_n dX7_step_11 rfl ?_
  refine mm_iaload (n := _) hm (by decide) rfl (by show _ < 300; omega) dX7_step_12 ?_
  rw [(hr.2.2.2.2.2.2.2.2.1.1 (az_b Z 2 p) (by omega)).1, en9]
  refine pm_istn dX7_step_13 (i := 3) rfl (by decide) ?_
  dsimp only [List.set]
  refine pm_aload_n dX7_step_14 rfl ?_
  refine pm_g_Model_place hm.1 pm_f_X7_32 (hm.2.1 7 (by decide)).1 dX7_step_15 ?_
  refine pm_iload_n dX7_step_18 rfl ?_
  refine pm_iload_n dX7_step_19 rfl ?_
  refine pm_iconst (v := 1) dX7_step_20 (by decide) ?_
  refine pm_iadd dX7_step_21 ?_
  refine pm_sipush (v := 300) dX7_step_22 (by decide) ?_
  rw [nI_1]
  refine pm_irem dX7_step_25 (by decide) ?_
  rw [show (300 : Int32) = nI 300 from rfl, pk_rem (by omega) (by decide) (by decide)]
  refine mm_iastore (n := _) hm (by decide) rfl (by show _ < 60; omega) dX7_step_26 (fun S26 hm26 => ?_)
  refine pm_aload_n dX7_step_27 rfl ?_
  refine pm_g_Model_done hm26.1 pm_f_X7_66 (hm26.2.1 18 (by decide)).1 dX7_step_28 ?_
  refine pm_iload_n dX7_step_31 rfl ?_
  refine pm_dup2 dX7_step_32 ?_
  refine mm_iaload (n := _) hm26 (by decide) rfl (by show _ < 60; omega) dX7_step_33 ?_
  refine pm_iconst (v := 1) dX7_step_34 (by decide) ?_
  refine pm_iadd dX7_step_35 ?_
  rw [mx_o (by decide), hr.B (i := 6) hp rfl, nI_1]
  refine mm_iastore (n := _) hm26 (by decide) rfl (by show _ < 60; omega) dX7_step_36 (fun S36 hm36 => ?_)
  refine pm_aload_n dX7_step_37 rfl ?_
  refine pm_dup dX7_step_38 ?_
  refine pm_g_Model_allDone hm36.1 pm_f_X7_206 dX7_step_39 ?_
  rw [hm36.f (g := 387) (f := 37) rfl]
  refine pm_iconst (v := 1) dX7_step_42 (by decide) ?_
  refine pm_iadd dX7_step_43 ?_
  rw [mx_2, mx_2, hr.A (i := 5) rfl, nI_1]
  refine pm_p_Model_allDone hm36.1 pm_f_X7_206 dX7_step_44 ?_
  refine mm_gen (hm36.si (g := 387) (f := 37) rfl) (fun S44 hm44 => ?_)
  have h3 : mR b (zTick Z p) (mi (mx (mx M 7 p (nI ((az_b Z 2 p + 1) % 300))) 18 p (nI (az_b Z 6 p + 1))) 37 (nI (az_a Z 5 + 1))) := ((hr.b0 (s := 7) (i := 2) (v := (az_b Z 2 p + 1) % 300) hp rfl (by decide)).b0 (s := 18) (i := 6) (v := az_b Z 6 p + 1) hp rfl (by decide)).a0 (f := 37) (i := 5) (v := az_a Z 5 + 1) rfl (by decide)
  generalize mi (mx (mx M 7 p (nI ((az_b Z 2 p + 1) % 300))) 18 p (nI (az_b Z 6 p + 1))) 37 (nI (az_a Z 5 + 1)) = M44 at h3 hm44
  refine pm_aload_n dX7_step_47 rfl ?_
  refine pm_g_Model_as hm44.1 pm_f_X7_20 (hm44.2.1 3 (by decide)).1 dX7_step_48 ?_
  refine pm_iload_n dX7_step_51 rfl ?_
  refine mm_iaload (n := _) hm44 (by decide) rfl (by show _ < 300; omega) dX7_step_52 ?_
  rw [show M44.1 3 (az_b Z 2 p) = az_x Z 0 (4 * (az_b Z 2 p) + 1) from (h3.2.2.2.2.2.2.2.2.1.1 (az_b Z 2 p) (by omega)).2.1]
  refine pm_istore dX7_step_53 (by decide) ?_
  dsimp only [List.set]
  refine pm_iload_n dX7_step_55 rfl ?_
  refine pm_iload dX7_step_56 rfl ?_
  refine pm_ssi (c_X7_registerOf G l bs p _ _) pm_y_X7_registerOf pm_s_X7_registerOf pm_m_X7_209 dX7_step_58 rfl rfl (by decide) (Nat.le_of_ble_eq_true rfl) (fun x58 S58 h58 => ?_)
  obtain ⟨rfl, rfl⟩ := h58
  refine pm_istore dX7_step_61 (by decide) ?_
  dsimp only [List.set]
  refine pm_iload_n dX7_step_63 rfl ?_
  refine pm_aload_n dX7_step_64 rfl ?_
  refine pm_g_Model_bs hm44.1 pm_f_X7_23 (hm44.2.1 4 (by decide)).1 dX7_step_65 ?_
  refine pm_iload_n dX7_step_68 rfl ?_
  refine mm_iaload (n := _) hm44 (by decide) rfl (by show _ < 300; omega) dX7_step_69 ?_
  rw [show M44.1 4 (az_b Z 2 p) = az_x Z 0 (4 * (az_b Z 2 p) + 2) from (h3.2.2.2.2.2.2.2.2.1.1 (az_b Z 2 p) (by omega)).2.2.1]
  refine pm_ssi (c_X7_registerOf G l bs p _ _) pm_y_X7_registerOf pm_s_X7_registerOf pm_m_X7_209 dX7_step_70 rfl rfl (by decide) (Nat.le_of_ble_eq_true rfl) (fun x70 S70 h70 => ?_)
  obtain ⟨rfl, rfl⟩ := h70
  refine pm_istore dX7_step_73 (by decide) ?_
  dsimp only [List.set]
  refine pm_iload_n dX7_step_75 rfl ?_
  refine pm_aload_n dX7_step_76 rfl ?_
  refine pm_g_Model_cs hm44.1 pm_f_X7_26 (hm44.2.1 5 (by decide)).1 dX7_step_77 ?_
  refine pm_iload_n dX7_step_80 rfl ?_
  refine mm_iaload (n := _) hm44 (by decide) rfl (by show _ < 300; omega) dX7_step_81 ?_
  rw [show M44.1 5 (az_b Z 2 p) = az_x Z 0 (4 * (az_b Z 2 p) + 3) from (h3.2.2.2.2.2.2.2.2.1.1 (az_b Z 2 p) (by omega)).2.2.2]
  refine pm_ssi (c_X7_registerOf G l bs p _ _) pm_y_X7_registerOf pm_s_X7_registerOf pm_m_X7_209 dX7_step_82 rfl rfl (by decide) (Nat.le_of_ble_eq_true rfl) (fun x82 S82 h82 => ?_)
  obtain ⟨rfl, rfl⟩ := h82
  refine pm_istore dX7_step_85 (by decide) ?_
  dsimp only [List.set]
  refine pm_iload dX7_step_87 rfl ?_
  refine pm_sipush (v := 300) dX7_step_89 (by decide) ?_
  refine pm_ssi (c_X7_mod G l bs _ 300 _ (by decide) (by decide)) pm_y_X7_mod pm_s_X7_mod pm_m_X7_199 dX7_step_92 rfl rfl (by decide) (Nat.le_of_ble_eq_true rfl) (fun x92 S92 h92 => ?_)
  obtain ⟨rfl, rfl⟩ := h92
  refine pm_istore dX7_step_95 (by decide) ?_
  dsimp only [List.set]
  refine pm_iload_n dX7_step_97 rfl ?_
  refine pm_bipush (v := 15) dX7_step_98 (by decide) ?_
  refine pm_icmp_ge (tgt := 128) dX7_step_100 (by decide) (fun h100 => ?_) (fun h100 => ?_)
  · skip
    have g1 : 15 ≤ n9 := (pm_nle (a := 15) (b := n9) (by omega) (by omega)).mp h100
    refine pm_iload_n dX7_step_128 rfl ?_
    refine pm_bipush (v := 23) dX7_step_129 (by decide) ?_
    refine pm_icmp_ge (tgt := 155) dX7_step_131 (by decide) (fun h131 => ?_) (fun h131 => ?_)
    · skip
      have g2 : 23 ≤ n9 := (pm_nle (a := 23) (b := n9) (by omega) (by omega)).mp h131
      refine pm_iload_n dX7_step_155 rfl ?_
      refine pm_bipush (v := 29) dX7_step_156 (by decide) ?_
      refine pm_icmp_ge (tgt := 188) dX7_step_158 (by decide) (fun h158 => ?_) (fun h158 => ?_)
      · skip
        have g3 : 29 ≤ n9 := (pm_nle (a := 29) (b := n9) (by omega) (by omega)).mp h158
        refine pm_aload_n dX7_step_188 rfl ?_
        refine pm_iload_n dX7_step_189 rfl ?_
        refine pm_iload_n dX7_step_190 rfl ?_
        refine pm_iload dX7_step_191 rfl ?_
        refine pm_aload_n dX7_step_193 rfl ?_
        refine pm_g_Model_bs hm44.1 pm_f_X7_23 (hm44.2.1 4 (by decide)).1 dX7_step_194 ?_
        refine pm_iload_n dX7_step_197 rfl ?_
        refine mm_iaload (n := _) hm44 (by decide) rfl (by show _ < 300; omega) dX7_step_198 ?_
        rw [show M44.1 4 (az_b Z 2 p) = az_x Z 0 (4 * (az_b Z 2 p) + 2) from (h3.2.2.2.2.2.2.2.2.1.1 (az_b Z 2 p) (by omega)).2.2.1]
        refine pm_iload dX7_step_199 rfl ?_
        refine pm_iload dX7_step_201 rfl ?_
        try rw [show M44.1 4 (az_b Z 2 p) = az_x Z 0 (4 * (az_b Z 2 p) + 2) from (h3.2.2.2.2.2.2.2.2.1.1 (az_b Z 2 p) (by omega)).2.2.1]
        refine pm_vv (c_X7_others G l bs A E M44 b (zTick Z p) s p n9 _ _ _ (zWd Z p) _ hm44 h3 hIt ⟨g3, by omega⟩ hp h0t eW) pm_y_X7_others pm_v_X7_others pm_m_X7_223 (c := 7) (r := (RX7, TX7, 41)) rfl rfl hm44.1 dX7_step_203 rfl rfl (by decide) (Nat.le_of_ble_eq_true rfl) (fun S203 h203 => ?_)
        obtain ⟨M206, hm206, hr206⟩ := h203
        refine pm_aload_n dX7_step_206 rfl ?_
        refine pm_vv (c_X7_spread G l bs A E M206 b (zWd Z p) s (zStep Z p) _ hm206 hr206 hIw (hb.trans (zWord_a2 (zTick Z p) p _ _ _ _).symm) rfl) pm_y_X7_spread pm_v_X7_spread pm_m_X7_226 (c := 7) (r := (RX7, TX7, 41)) rfl rfl hm206.1 dX7_step_207 rfl rfl (by decide) (Nat.le_of_ble_eq_true rfl) (fun S207 h207 => ?_)
        obtain ⟨M207, hm207, hr207⟩ := h207
        subst hQ9
        refine pm_vret dX7_step_210 ?_
        exact ⟨M207, hm207, hr207⟩
      · skip
        have g3 : n9 < 29 := by rcases Nat.lt_or_ge n9 29 with q | q; exact q; exact absurd ((pm_nle (a := 29) (b := n9) (by omega) (by omega)).mpr q) h158
        refine pm_aload_n dX7_step_161 rfl ?_
        refine pm_iload_n dX7_step_162 rfl ?_
        refine pm_iload_n dX7_step_163 rfl ?_
        refine pm_iload dX7_step_164 rfl ?_
        refine pm_iload dX7_step_166 rfl ?_
        refine pm_aload_n dX7_step_168 rfl ?_
        refine pm_g_Model_cs hm44.1 pm_f_X7_26 (hm44.2.1 5 (by decide)).1 dX7_step_169 ?_
        refine pm_iload_n dX7_step_172 rfl ?_
        refine mm_iaload (n := _) hm44 (by decide) rfl (by show _ < 300; omega) dX7_step_173 ?_
        rw [show M44.1 5 (az_b Z 2 p) = az_x Z 0 (4 * (az_b Z 2 p) + 3) from (h3.2.2.2.2.2.2.2.2.1.1 (az_b Z 2 p) (by omega)).2.2.2]
        refine pm_sipush (v := 300) dX7_step_174 (by decide) ?_
        refine pm_ssi (c_X7_mod G l bs _ 300 _ (by decide) (by decide)) pm_y_X7_mod pm_s_X7_mod pm_m_X7_199 dX7_step_177 rfl rfl (by decide) (Nat.le_of_ble_eq_true rfl) (fun x177 S177 h177 => ?_)
        obtain ⟨rfl, rfl⟩ := h177
        refine pm_iload dX7_step_180 rfl ?_
        try rw [show M44.1 4 (az_b Z 2 p) = az_x Z 0 (4 * (az_b Z 2 p) + 2) from (h3.2.2.2.2.2.2.2.2.1.1 (az_b Z 2 p) (by omega)).2.2.1]
        refine pm_vv (c_X7_mails G l bs A E M44 b (zTick Z p) s p n9 _ _ _ (zWd Z p) _ hm44 h3 hIt ⟨g2, g3⟩ hp h0t eW) pm_y_X7_mails pm_v_X7_mails pm_m_X7_220 (c := 7) (r := (RX7, TX7, 41)) rfl rfl hm44.1 dX7_step_182 rfl rfl (by decide) (Nat.le_of_ble_eq_true rfl) (fun S182 h182 => ?_)
        obtain ⟨M206, hm206, hr206⟩ := h182
        refine pm_goto (tgt := 206) dX7_step_185 (by decide) ?_
        refine pm_aload_n dX7_step_206 rfl ?_
        refine pm_vv (c_X7_spread G l bs A E M206 b (zWd Z p) s (zStep Z p) _ hm206 hr206 hIw (hb.trans (zWord_a2 (zTick Z p) p _ _ _ _).symm) rfl) pm_y_X7_spread pm_v_X7_spread pm_m_X7_226 (c := 7) (r := (RX7, TX7, 41)) rfl rfl hm206.1 dX7_step_207 rfl rfl (by decide) (Nat.le_of_ble_eq_true rfl) (fun S207 h207 => ?_)
        obtain ⟨M207, hm207, hr207⟩ := h207
        subst hQ9
        refine pm_vret dX7_step_210 ?_
        exact ⟨M207, hm207, hr207⟩
    · skip
      have g2 : n9 < 23 := by rcases Nat.lt_or_ge n9 23 with q | q; exact q; exact absurd ((pm_nle (a := 23) (b := n9) (by omega) (by omega)).mpr q) h131
      refine pm_aload_n dX7_step_134 rfl ?_
      refine pm_iload_n dX7_step_135 rfl ?_
      refine pm_iload_n dX7_step_136 rfl ?_
      refine pm_aload_n dX7_step_137 rfl ?_
      refine pm_g_Model_bs hm44.1 pm_f_X7_23 (hm44.2.1 4 (by decide)).1 dX7_step_138 ?_
      refine pm_iload_n dX7_step_141 rfl ?_
      refine mm_iaload (n := _) hm44 (by decide) rfl (by show _ < 300; omega) dX7_step_142 ?_
      rw [show M44.1 4 (az_b Z 2 p) = az_x Z 0 (4 * (az_b Z 2 p) + 2) from (h3.2.2.2.2.2.2.2.2.1.1 (az_b Z 2 p) (by omega)).2.2.1]
      refine pm_iload dX7_step_143 rfl ?_
      refine pm_iload dX7_step_145 rfl ?_
      refine pm_iload dX7_step_147 rfl ?_
      try rw [show M44.1 4 (az_b Z 2 p) = az_x Z 0 (4 * (az_b Z 2 p) + 2) from (h3.2.2.2.2.2.2.2.2.1.1 (az_b Z 2 p) (by omega)).2.2.1]
      refine pm_vv (c_X7_calls G l bs A E M44 b (zTick Z p) s p n9 _ _ _ (zWd Z p) _ hm44 h3 hIt ⟨g1, g2⟩ hp h0t eW) pm_y_X7_calls pm_v_X7_calls pm_m_X7_216 (c := 7) (r := (RX7, TX7, 41)) rfl rfl hm44.1 dX7_step_149 rfl rfl (by decide) (Nat.le_of_ble_eq_true rfl) (fun S149 h149 => ?_)
      obtain ⟨M206, hm206, hr206⟩ := h149
      refine pm_goto (tgt := 206) dX7_step_152 (by decide) ?_
      refine pm_aload_n dX7_step_206 rfl ?_
      refine pm_vv (c_X7_spread G l bs A E M206 b (zWd Z p) s (zStep Z p) _ hm206 hr206 hIw (hb.trans (zWord_a2 (zTick Z p) p _ _ _ _).symm) rfl) pm_y_X7_spread pm_v_X7_spread pm_m_X7_226 (c := 7) (r := (RX7, TX7, 41)) rfl rfl hm206.1 dX7_step_207 rfl rfl (by decide) (Nat.le_of_ble_eq_true rfl) (fun S207 h207 => ?_)
      obtain ⟨M207, hm207, hr207⟩ := h207
      subst hQ9
      refine pm_vret dX7_step_210 ?_
      exact ⟨M207, hm207, hr207⟩
  · skip
    have g1 : n9 < 15 := by rcases Nat.lt_or_ge n9 15 with q | q; exact q; exact absurd ((pm_nle (a := 15) (b := n9) (by omega) (by omega)).mpr q) h100
    refine pm_aload_n dX7_step_103 rfl ?_
    refine pm_iload_n dX7_step_104 rfl ?_
    refine pm_iload_n dX7_step_105 rfl ?_
    refine pm_iload dX7_step_106 rfl ?_
    refine pm_aload_n dX7_step_108 rfl ?_
    refine pm_g_Model_bs hm44.1 pm_f_X7_23 (hm44.2.1 4 (by decide)).1 dX7_step_109 ?_
    refine pm_iload_n dX7_step_112 rfl ?_
    refine mm_iaload (n := _) hm44 (by decide) rfl (by show _ < 300; omega) dX7_step_113 ?_
    rw [show M44.1 4 (az_b Z 2 p) = az_x Z 0 (4 * (az_b Z 2 p) + 2) from (h3.2.2.2.2.2.2.2.2.1.1 (az_b Z 2 p) (by omega)).2.2.1]
    refine pm_iload dX7_step_114 rfl ?_
    refine pm_iload dX7_step_116 rfl ?_
    refine pm_iload dX7_step_118 rfl ?_
    refine pm_iload dX7_step_120 rfl ?_
    try rw [show M44.1 4 (az_b Z 2 p) = az_x Z 0 (4 * (az_b Z 2 p) + 2) from (h3.2.2.2.2.2.2.2.2.1.1 (az_b Z 2 p) (by omega)).2.2.1]
    refine pm_vv (c_X7_simple G l bs A E M44 b (zTick Z p) s p n9 _ _ _ (zWd Z p) _ hm44 h3 hIt g1 hp h0t eW) pm_y_X7_simple pm_v_X7_simple pm_m_X7_212 (c := 7) (r := (RX7, TX7, 41)) rfl rfl hm44.1 dX7_step_122 rfl rfl (by decide) (Nat.le_of_ble_eq_true rfl) (fun S122 h122 => ?_)
    obtain ⟨M206, hm206, hr206⟩ := h122
    refine pm_goto (tgt := 206) dX7_step_125 (by decide) ?_
    refine pm_aload_n dX7_step_206 rfl ?_
    refine pm_vv (c_X7_spread G l bs A E M206 b (zWd Z p) s (zStep Z p) _ hm206 hr206 hIw (hb.trans (zWord_a2 (zTick Z p) p _ _ _ _).symm) rfl) pm_y_X7_spread pm_v_X7_spread pm_m_X7_226 (c := 7) (r := (RX7, TX7, 41)) rfl rfl hm206.1 dX7_step_207 rfl rfl (by decide) (Nat.le_of_ble_eq_true rfl) (fun S207 h207 => ?_)
    obtain ⟨M207, hm207, hr207⟩ := h207
    subst hQ9
    refine pm_vret dX7_step_210 ?_
    exact ⟨M207, hm207, hr207⟩

