/-! what always holds, behind messages, deaths and exits -/
section ZJ
variable {Z : az} {s : Nat}
/-- a state that isn't dead, neither before nor behind -/
theorem zI.st {p v : Nat} {t : Nat} (h : zI s Z) (hp : p < az_a Z 0) (hv : v = 0 ∨ v = 1) (h0 : az_b Z 1 p ≠ 2) (ht : t + (if v = 1 then 1 else 0) ≤ s + (if az_b Z 1 p = 1 then 1 else 0)) : zI t (zs_b Z 1 p v) := by
  obtain ⟨h1, h2, h3, h4, h5, h6, h7, h8, h9, h10, h11, h12⟩ := h
  have e1 : ∀ q, q ≠ p → az_b (zs_b Z 1 p v) 1 q = az_b Z 1 q := fun q hq => by rw [z_b_b, if_neg (fun z => hq z.2)]
  have e2 : az_b (zs_b Z 1 p v) 1 p = v := by rw [z_b_b, if_pos ⟨rfl, rfl⟩]
  have c2 := zCnt_set (v := 2) e1 (az_a Z 0) hp
  have c1 := zCnt_set (v := 1) e1 (az_a Z 0) hp
  rw [e2, if_neg (by omega : ¬ v = 2), if_neg h0] at c2
  rw [e2] at c1
  have dead : ∀ q, az_b Z 1 q = 2 → az_b (zs_b Z 1 p v) 1 q = 2 := fun q hq => by rw [e1 q (fun z => h0 (by rw [← z]; exact hq))]; exact hq
  refine ⟨h1, h2.set (fun _ => by show v ≤ 2; omega), fun q hq => ?_, fun q hq => ?_, ⟨?_, h5.2.1, fun k hk => ⟨(h5.2.2 k hk).1, dead _ (h5.2.2 k hk).2⟩⟩, ⟨h6.1, fun a q hq => ?_⟩, h7, fun q hq => ?_, h9, h10, ⟨?_, h11.2⟩, h12⟩
  · rw [z_b_bne (by omega), z_b_bne (by omega), z_b_bne (by omega)]; exact h3 q hq
  · rw [z_b_bne (by omega), z_b_bne (by omega)]; exact h4 q hq
  · show az_a Z 1 = zCnt (zs_b Z 1 p v) 2 (az_a Z 0)
    rw [h5.1]
    omega
  · obtain ⟨a1, a2, a3, a4⟩ := h6.2 a q hq
    refine ⟨a1, a2, ?_, a4⟩
    by_cases e : q = p
    · rw [e, e2]; omega
    · rw [e1 q e]; exact a3
  · rw [z_b_bne (by omega)]; exact h8 q hq
  · show az_a Z 3 + zCnt (zs_b Z 1 p v) 1 (az_a Z 0) + t ≤ az_a Z 5 + az_a Z 4 + az_a Z 0
    have := h11.1
    omega
/-- one that waits becomes ready -/
theorem zI.ready {p a : Nat} (h : zI s Z) (hp : p < az_a Z 0) (hw : az_b Z 1 p = 1) (ha : a < 300) : zI s (zReady Z p a) := by
  have g1 : zI (s + 1) (zs_b Z 1 p 0) := h.st hp (Or.inl rfl) (by omega) (by rw [if_pos hw]; simp)
  have g2 := g1.sb (i := 2) (p := p) (v := a) (by omega) (fun _ => by show a ≤ 299; omega)
  have g3 := g2.e1 (p := p) (r := none) (fun u z => by cases z)
  exact g3.turn hp
/-- a message comes -/
theorem zI.comes {p : Nat} {w : List Int32} (h : zI s Z) (hp : p < az_a Z 0) (hw : tW (az_a Z 0) w) : zI s (zComes Z p w) := by
  unfold zComes
  by_cases hk : az_b Z 1 p ≠ 2 ∧ az_b Z 9 p < 40
  · rw [if_pos hk]
    dsimp only
    have g : zI s (zs_a (zs_b (zs_b (zs_t Z 2 p (az_b Z 9 p) w) 9 p (az_b Z 9 p + 1)) 12 p (max (az_b Z 12 p) (az_b Z 9 p + 1))) 7 (az_a Z 7 + 1)) := by
      refine zI.sa ?_ (Or.inl rfl)
      obtain ⟨h1, h2, h3, h4, h5, h6, h7, h8, h9, h10, h11, h12⟩ := h
      have b12 : az_b Z 12 p ≤ 40 := h2 p hp 12 (by decide)
      have ec : ∀ u k, zCnt (zs_b (zs_b (zs_t Z 2 p (az_b Z 9 p) w) 9 p (az_b Z 9 p + 1)) 12 p (max (az_b Z 12 p) (az_b Z 9 p + 1))) u k = zCnt Z u k := fun u k => zCnt_eq k (fun q _ => by rw [z_b_bne (by omega), z_b_bne (by omega), z_b_t])
      refine ⟨h1, iB.set (Z := zs_b (zs_t Z 2 p (az_b Z 9 p) w) 9 p (az_b Z 9 p + 1)) (iB.set (Z := zs_t Z 2 p (az_b Z 9 p) w) h2 (fun _ => by show _ ≤ 40; omega)) (fun _ => by show _ ≤ 40; omega), fun q hq => ?_, fun q hq => ?_, ⟨?_, h5.2.1, fun k hk => ?_⟩, ⟨h6.1, fun a q hq => ?_⟩, h7, fun q hq => ?_, h9, h10, ⟨?_, h11.2⟩, h12⟩
      · rw [z_b_bne (i := 10) (by omega), z_b_bne (i := 10) (by omega), z_b_t, z_b_bne (i := 9) (by omega), z_b_b, z_b_t, z_b_b, z_b_bne (i := 12) (by omega), z_b_t]
        have := h3 q hq
        by_cases e : q = p
        · subst e
          rw [if_pos ⟨rfl, rfl⟩, if_pos ⟨rfl, rfl⟩]
          omega
        · rw [if_neg (fun z => e z.2), if_neg (fun z => e z.2)]
          exact this
      · rw [z_b_bne (by omega), z_b_bne (by omega), z_b_t, z_b_bne (by omega), z_b_bne (by omega), z_b_t]; exact h4 q hq
      · rw [ec]; exact h5.1
      · rw [z_b_bne (by omega), z_b_bne (by omega), z_b_t]; exact h5.2.2 k hk
      · rw [z_b_bne (by omega), z_b_bne (by omega), z_b_t]; exact h6.2 a q hq
      · obtain ⟨a, b, c⟩ := h8 q hq
        rw [z_b_bne (i := 9) (by omega), z_b_b, z_b_t]
        refine ⟨fun j hj => ?_, ?_, fun k hk => ?_⟩
        · rw [z_t_b, z_t_b, z_t_t, if_neg (by omega)]; exact a j hj
        · rw [z_t_b, z_t_b, z_t_t, if_neg (by omega)]; exact b
        · rw [z_t_b, z_t_b, z_t_t]
          by_cases e : 2 = 2 ∧ q = p ∧ k = az_b Z 9 p
          · rw [if_pos e]; exact hw
          · rw [if_neg e]
            by_cases e2 : q = p
            · rw [if_pos ⟨rfl, e2⟩] at hk
              exact c k (by rw [e2]; omega)
            · rw [if_neg (fun z => e2 z.2)] at hk
              exact c k hk
      · rw [ec]; exact h11.1
    by_cases e : az_b Z 1 p = 1
    · rw [if_pos e]
      exact g.ready hp e (Nat.lt_succ_of_le (h.b hp 3))
    · rw [if_neg e]
      exact g
  · rw [if_neg hk]
    exact h
/-- it dies -/
theorem zI.dies {p : Nat} {w : List Int32} (h : zI s Z) (hp : p < az_a Z 0) (h0 : az_b Z 1 p ≠ 2) (hw : tW (az_a Z 0) w) : zI s (zDies Z p w) := by
  obtain ⟨h1, h2, h3, h4, h5, h6, h7, h8, h9, h10, h11, h12⟩ := id h
  have kZ1 : ∃ W : az, zDies Z p w = zs_a (zs_c (zs_w (zs_b (zs_b (zs_b (zs_b (zs_b (zs_t W 1 p 0 w) 1 p 2) 9 p 0) 10 p 0) 7 p 0) 8 p 0) ((az_w Z).filter (fun t => decide (t.2.1 ≠ p)))) 3 0 (az_a Z 1) p) 1 (az_a Z 1 + 1) ∧ az_a W = az_a Z ∧ az_b W = az_b Z ∧ az_c W = az_c Z ∧ az_f W = az_f Z ∧ az_t W = az_t Z ∧ az_e W 1 = az_e Z 1 ∧ (∀ q, az_e W 0 q = if q = p then none else az_e Z 0 q) ∧ (∀ a, az_e W 2 a = if az_e Z 2 a = some p then none else az_e Z 2 a) := by
    unfold zDies
    cases hc : az_e Z 0 p with
    | none =>
      refine ⟨Z, rfl, rfl, rfl, rfl, rfl, rfl, rfl, fun q => ?_, fun a => ?_⟩
      · by_cases e : q = p
        · rw [if_pos e, e, hc]
        · rw [if_neg e]
      · rw [if_neg (fun z => by have := (h6.2 a p z).2.2.2; rw [hc] at this; cases this)]
    | some n =>
      refine ⟨zs_e (zs_e Z 2 n none) 0 p none, rfl, rfl, rfl, rfl, rfl, rfl, rfl, fun q => ?_, fun a => ?_⟩
      · rw [z_e_e, z_e_e, if_neg (c := 0 = 2 ∧ q = n) (by omega)]
        by_cases e : q = p
        · rw [if_pos ⟨rfl, e⟩, if_pos e]
        · rw [if_neg (fun z => e z.2), if_neg e]
      · rw [z_e_e, if_neg (by omega), z_e_e]
        by_cases e : a = n
        · rw [if_pos ⟨rfl, e⟩, e, if_pos (h6.1 p hp n hc)]
        · rw [if_neg (fun z => e z.2), if_neg (fun z => e ?_)]
          have := (h6.2 a p z).2.2.2
          rw [hc] at this
          exact (Option.some.inj this).symm
  obtain ⟨W, eW, w0, w1, w2, w3, w4, w5, w6, w7⟩ := kZ1
  rw [eW]
  have hb : ∀ i q, az_b (zs_a (zs_c (zs_w (zs_b (zs_b (zs_b (zs_b (zs_b (zs_t W 1 p 0 w) 1 p 2) 9 p 0) 10 p 0) 7 p 0) 8 p 0) ((az_w Z).filter (fun t => decide (t.2.1 ≠ p)))) 3 0 (az_a Z 1) p) 1 (az_a Z 1 + 1)) i q = if q = p then (if i = 1 then 2 else if i = 9 ∨ i = 10 ∨ i = 7 ∨ i = 8 then 0 else az_b Z i q) else az_b Z i q := fun i q => by
    simp only [z_b_a, z_b_c, z_b_w, z_b_b, z_b_t, w1]
    by_cases e : q = p
    · by_cases e1 : i = 1
      · simp [e, e1]
      · by_cases e2 : i = 9
        · simp [e, e2]
        · by_cases e3 : i = 10
          · simp [e, e3]
          · by_cases e4 : i = 7
            · simp [e, e4]
            · by_cases e5 : i = 8
              · simp [e, e5]
              · simp [e, e1, e2, e3, e4, e5]
    · simp [e]
  generalize hX : zs_a (zs_c (zs_w (zs_b (zs_b (zs_b (zs_b (zs_b (zs_t W 1 p 0 w) 1 p 2) 9 p 0) 10 p 0) 7 p 0) 8 p 0) ((az_w Z).filter (fun t => decide (t.2.1 ≠ p)))) 3 0 (az_a Z 1) p) 1 (az_a Z 1 + 1) = X at hb
  have ha : ∀ i, az_a X i = if i = 1 then az_a Z 1 + 1 else az_a Z i := fun i => by rw [← hX, z_a_a]; simp only [z_a_c, z_a_w, z_a_b, z_a_t, w0]
  have hc : ∀ i q k, az_c X i q k = if i = 3 ∧ q = 0 ∧ k = az_a Z 1 then p else az_c Z i q k := fun i q k => by rw [← hX]; simp only [z_c_a, z_c_c, z_c_w, z_c_b, z_c_t, w2]
  have he : ∀ i q, az_e X i q = az_e W i q := fun i q => by rw [← hX]; rfl
  have hf : ∀ i q, az_f X i q = az_f Z i q := fun i q => by rw [← hX, ← w3]; rfl
  have ht : ∀ i q k, az_t X i q k = if i = 1 ∧ q = p ∧ k = 0 then w else az_t Z i q k := fun i q k => by rw [← hX, ← w4]; rfl
  have hww : az_w X = (az_w Z).filter (fun t => decide (t.2.1 ≠ p)) := by rw [← hX]; rfl
  have a0 : az_a X 0 = az_a Z 0 := ha 0
  have b1 : ∀ q, q ≠ p → az_b X 1 q = az_b Z 1 q := fun q hq => by rw [hb, if_neg hq]
  have b1p : az_b X 1 p = 2 := by rw [hb, if_pos rfl, if_pos rfl]
  have c2 := zCnt_set (v := 2) b1 (az_a Z 0) hp
  have c1 := zCnt_set (v := 1) b1 (az_a Z 0) hp
  rw [b1p, if_pos rfl, if_neg h0] at c2
  rw [b1p, if_neg (by decide : ¬ (2 : Nat) = 1)] at c1
  refine ⟨by rw [a0]; exact h1, fun q hq i hi => ?_, fun q hq => ?_, fun q hq => ?_, ⟨?_, ?_, fun k hk => ?_⟩, ⟨fun q hq a => ?_, fun a q => ?_⟩, fun q r => ?_, fun q hq => ?_, ⟨?_, fun t => ?_⟩, fun q hq u => ?_, ⟨?_, ?_⟩, ?_⟩
  · rw [a0] at hq
    have := h2 q hq i hi
    rw [hb]
    split
    · split
      · rename_i e; subst e; exact Nat.le_refl _
      · split
        · exact Nat.zero_le _
        · exact this
    · exact this
  · rw [a0] at hq
    have := h3 q hq
    rw [hb, hb, hb]
    by_cases e : q = p
    · simp [e]
    · simp only [if_neg e]; exact this
  · rw [a0] at hq
    obtain ⟨a, b⟩ := h4 q hq
    refine ⟨fun i hi => ?_, fun i hi => ?_⟩
    · rw [hc, if_neg (by omega)]
      refine a i ?_
      rw [hb] at hi
      by_cases e : q = p
      · simp [e] at hi
      · rw [if_neg e] at hi; exact hi
    · rw [hc, if_neg (by omega), hc, if_neg (by omega)]
      refine b i ?_
      rw [hb] at hi
      by_cases e : q = p
      · simp [e] at hi
      · rw [if_neg e] at hi; exact hi
  · rw [ha 1, if_pos rfl, a0, h5.1]
    omega
  · rw [ha 1, ha 2, if_pos rfl, if_neg (by decide)]
    have := h5.2.1
    omega
  · rw [ha 1, if_pos rfl] at hk
    rw [hc, a0]
    by_cases e : k = az_a Z 1
    · rw [if_pos ⟨rfl, rfl, e⟩]
      exact ⟨hp, b1p⟩
    · rw [if_neg (fun z => e z.2.2)]
      obtain ⟨q1, q2⟩ := h5.2.2 k (by omega)
      refine ⟨q1, ?_⟩
      rw [b1 _ (fun z => h0 (by rw [← z]; exact q2))]
      exact q2
  · rw [a0] at hq
    rw [he, he, w6, w7]
    by_cases e : q = p
    · rw [if_pos e]; intro z; cases z
    · rw [if_neg e]
      intro z
      have z2 := h6.1 q hq a z
      rw [z2, if_neg (fun z3 => e (Option.some.inj z3))]
  · rw [he, he, w7, w6]
    by_cases e : az_e Z 2 a = some p
    · rw [if_pos e]; intro z; cases z
    · rw [if_neg e]
      intro z
      obtain ⟨q1, q2, q3, q4⟩ := h6.2 a q z
      have ne : q ≠ p := fun z2 => e (by rw [z, z2])
      rw [if_neg ne, a0, b1 q ne]
      exact ⟨q1, q2, q3, q4⟩
  · rw [hf, hf, a0]; exact h7 q r
  · rw [a0] at hq ⊢
    obtain ⟨a, b, c⟩ := h8 q hq
    refine ⟨fun j hj => ?_, ?_, fun k hk => ?_⟩
    · rw [ht, if_neg (by omega)]; exact a j hj
    · rw [ht]
      by_cases e : 1 = 1 ∧ q = p ∧ 0 = 0
      · rw [if_pos e]; exact hw
      · rw [if_neg e]; exact b
    · rw [ht, if_neg (by omega)]
      refine c k ?_
      rw [hb] at hk
      by_cases e : q = p
      · simp [e] at hk
      · rw [if_neg e] at hk; exact hk
  · rw [hww]
    exact Nat.le_trans (List.length_filter_le _ _) h9.1
  · rw [hww, a0]
    intro z
    exact h9.2 t (List.mem_filter.mp z).1
  · rw [a0] at hq
    rw [he, w5, ha 6, if_neg (by decide)]
    exact h10 q hq u
  · rw [ha 3, ha 5, ha 4, a0, if_neg (by decide), if_neg (by decide), if_neg (by decide)]
    have := h11.1
    omega
  · rw [ha 9, ha 5, if_neg (by decide), if_neg (by decide)]
    exact h11.2
  · unfold iQ
    rw [ha 4, ha 5, ha 6, if_neg (by decide), if_neg (by decide), if_neg (by decide)]
    exact h12
end ZJ
