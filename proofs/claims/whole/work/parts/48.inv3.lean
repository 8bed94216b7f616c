/-! exits, downs, the spreading of deaths, failing, new processes: what always holds, and what it costs -/
def zLe (Z W : az) : Prop := az_a W 0 = az_a Z 0 ∧ zU Z ≤ zU W ∧ ∀ i, i = 4 ∨ i = 5 ∨ i = 6 → az_a W i = az_a Z i
theorem zLe.rf {Z : az} : zLe Z Z := ⟨rfl, Nat.le_refl _, fun _ _ => rfl⟩
theorem zLe.tr {Z W X : az} (h1 : zLe Z W) (h2 : zLe W X) : zLe Z X := ⟨h2.1.trans h1.1, Nat.le_trans h1.2.1 h2.2.1, fun i hi => (h2.2.2 i hi).trans (h1.2.2 i hi)⟩
theorem zLe.of {Z W : az} (h0 : az_a W 0 = az_a Z 0) (h : ∀ p, az_b W 12 p = az_b Z 12 p) (h4 : ∀ i, i = 4 ∨ i = 5 ∨ i = 6 → az_a W i = az_a Z i := by intro i hi; rcases hi with rfl | rfl | rfl <;> rfl) : zLe Z W := ⟨h0, Nat.le_of_eq (zU_eq h0 (fun p _ => h p)).symm, h4⟩
theorem zComes_a (Z : az) (p : Nat) (w : List Int32) (i : Nat) (h3 : i ≠ 3) (h7 : i ≠ 7) : az_a (zComes Z p w) i = az_a Z i := by
  unfold zComes
  split
  · dsimp only
    split
    · unfold zReady zTurn
      rw [z_a_a, if_neg h3, z_a_b, z_a_e, z_a_b, z_a_b, z_a_a, if_neg h7]
      rfl
    · rw [z_a_a, if_neg h7]
      rfl
  · rfl
theorem zLe_comes {Z : az} {p : Nat} {w : List Int32} (hp : p < az_a Z 0) : zLe Z (zComes Z p w) := ⟨zComes_n Z p w, by rw [zComes_U hp]; omega, fun i hi => zComes_a Z p w i (by omega) (by omega)⟩
theorem zDies_a (Z : az) (p : Nat) (w : List Int32) (i : Nat) : az_a (zDies Z p w) i = if i = 1 then az_a Z 1 + 1 else az_a Z i := by
  unfold zDies
  cases az_e Z 0 p <;> rfl
theorem zDies_12 (Z : az) (p : Nat) (w : List Int32) : az_b (zDies Z p w) 12 = az_b Z 12 ∧ az_a (zDies Z p w) 0 = az_a Z 0 := by
  unfold zDies
  cases az_e Z 0 p with
  | none =>
    refine ⟨?_, rfl⟩
    funext q
    simp only [z_b_a, z_b_c, z_b_w, z_b_b, z_b_t]
    simp
  | some n =>
    refine ⟨?_, rfl⟩
    funext q
    simp only [z_b_a, z_b_c, z_b_w, z_b_b, z_b_t, z_b_e]
    simp
theorem zLe_dies {Z : az} {p : Nat} {w : List Int32} : zLe Z (zDies Z p w) := zLe.of (zDies_12 Z p w).2 (fun q => by rw [(zDies_12 Z p w).1]) (fun i hi => by rw [zDies_a, if_neg (by omega)])
theorem zDies_U (Z : az) (p : Nat) (w : List Int32) : zU (zDies Z p w) = zU Z := zU_eq (zDies_12 Z p w).2 (fun q _ => by rw [(zDies_12 Z p w).1])
theorem zLe_exit {Z : az} {q p : Nat} {w : List Int32} {b : Bool} (hq : q < az_a Z 0) : zLe Z (zExit Z q p w b) := by
  unfold zExit
  split
  · exact zLe.rf
  · split
    · exact zLe_dies
    · split
      · exact zLe_comes hq
      · split
        · exact zLe.rf
        · exact zLe_dies
theorem zLe_link {Z : az} {p q : Nat} {v : Bool} : zLe Z (zLink Z p q v) := zLe.of rfl (fun _ => rfl)
theorem zLe_tellL : ∀ (k : Nat) (Z : az) (p q : Nat), q + k ≤ az_a Z 0 → zLe Z (zTellL k Z p q)
  | 0, _, _, _, _ => zLe.rf
  | k + 1, Z, p, q, h => by
    rw [zTellL]
    have h1 : zLe Z (if az_f Z p q = true then zExit (zLink Z p q false) q p (az_t Z 1 p 0) false else Z) := by
      split
      · exact zLe_link.tr (zLe_exit (show q < az_a Z 0 by omega))
      · exact zLe.rf
    exact h1.tr (zLe_tellL k _ p (q + 1) (by rw [h1.1]; omega))
theorem zLe_tellW : ∀ (l : List (Nat × Nat × Nat)) (Z : az) (p : Nat), (∀ t, t ∈ l → t.2.1 < az_a Z 0) → zLe Z (zTellW l Z p)
  | [], _, _, _ => zLe.rf
  | t :: l, Z, p, h => by
    rw [zTellW]
    have h1 : zLe Z (if t.2.2 = p then zDown Z t.2.1 t.1 p (az_t Z 1 p 0) else Z) := by
      split
      · exact zLe_comes (h t List.mem_cons_self)
      · exact zLe.rf
    exact h1.tr (zLe_tellW l _ p (fun u hu => by rw [h1.1]; exact h u (List.mem_cons_of_mem _ hu)))
theorem zLe_w {Z : az} {V : List (Nat × Nat × Nat)} : zLe Z (zs_w Z V) := zLe.of rfl (fun _ => rfl)
section ZK
variable {Z : az} {s : Nat}
theorem zI.exit {q p : Nat} {w : List Int32} {b : Bool} (h : zI s Z) (hq : q < az_a Z 0) (hp : p < az_a Z 0) (hw : tW (az_a Z 0) w) : zI s (zExit Z q p w b) := by
  unfold zExit
  by_cases e : az_b Z 1 q = 2
  · rw [if_pos e]; exact h
  · rw [if_neg e]
    split
    · exact h.dies hq e (tW.atom (by decide) (by decide))
    · split
      · exact h.comes hq (tl_r_wf hw hp h.1)
      · split
        · exact h
        · exact h.dies hq e hw
theorem zI.dwn {p m q : Nat} {w : List Int32} (h : zI s Z) (hp : p < az_a Z 0) (hq : q < az_a Z 0) (hw : tW (az_a Z 0) w) : zI s (zDown Z p m q w) := h.comes hp (tl_r_wf2 hw hq h.1)
theorem zI.rs (h : zI s Z) {p : Nat} (hp : p < az_a Z 0) : tW (az_a Z 0) (az_t Z 1 p 0) := (h.2.2.2.2.2.2.2.1 p hp).2.1
theorem zI.rg (h : zI s Z) {p j : Nat} (hp : p < az_a Z 0) (hj : j < 8) : tW (az_a Z 0) (az_t Z 0 p j) := (h.2.2.2.2.2.2.2.1 p hp).1 j hj
theorem zI.ms (h : zI s Z) {p k : Nat} (hp : p < az_a Z 0) (hk : k < az_b Z 9 p) : tW (az_a Z 0) (az_t Z 2 p k) := (h.2.2.2.2.2.2.2.1 p hp).2.2 k hk
end ZK
theorem zI.tell1 {s : Nat} {Z : az} {p q : Nat} (h : zI s Z) (hp : p < az_a Z 0) (hq : q < az_a Z 0) : zI s (if az_f Z p q = true then zExit (zLink Z p q false) q p (az_t Z 1 p 0) false else Z) := by
  by_cases e : az_f Z p q = true
  · rw [if_pos e]
    exact (h.lk (v := false) hp hq (h.2.2.2.2.2.2.1 p q e).2.2.1).exit hq hp (h.rs hp)
  · rw [if_neg e]; exact h
theorem zI.tellL {s : Nat} : ∀ (k : Nat) (Z : az) (p q : Nat), zI s Z → p < az_a Z 0 → q + k ≤ az_a Z 0 → zI s (zTellL k Z p q)
  | 0, _, _, _, h, _, _ => h
  | k + 1, Z, p, q, h, hp, hq => by
    rw [zTellL]
    have h1 := h.tell1 hp (show q < az_a Z 0 by omega)
    have h2 : az_a (if az_f Z p q = true then zExit (zLink Z p q false) q p (az_t Z 1 p 0) false else Z) 0 = az_a Z 0 := by
      split
      · exact (zLe_link.tr (zLe_exit (show q < az_a Z 0 by omega))).1
      · rfl
    exact zI.tellL k _ p (q + 1) h1 (by rw [h2]; exact hp) (by rw [h2]; omega)
theorem zI.tellW {s : Nat} : ∀ (l : List (Nat × Nat × Nat)) (Z : az) (p : Nat), zI s Z → p < az_a Z 0 → (∀ t, t ∈ l → t.2.1 < az_a Z 0) → zI s (zTellW l Z p)
  | [], _, _, h, _, _ => h
  | t :: l, Z, p, h, hp, hl => by
    rw [zTellW]
    have h1 : zI s (if t.2.2 = p then zDown Z t.2.1 t.1 p (az_t Z 1 p 0) else Z) ∧ az_a (if t.2.2 = p then zDown Z t.2.1 t.1 p (az_t Z 1 p 0) else Z) 0 = az_a Z 0 := by
      split
      · exact ⟨h.dwn (hl t List.mem_cons_self) hp (h.rs hp), zComes_n _ _ _⟩
      · exact ⟨h, rfl⟩
    exact zI.tellW l _ p h1.1 (by rw [h1.2]; exact hp) (fun u hu => by rw [h1.2]; exact hl u (List.mem_cons_of_mem _ hu))
theorem zI.wn {s : Nat} {Z : az} (h : zI s Z) : ∀ t, t ∈ az_w Z → t.2.1 < az_a Z 0 := fun t ht => (h.2.2.2.2.2.2.2.2.1.2 t ht).1
theorem zI.tell {s : Nat} {Z : az} {p : Nat} (h : zI s Z) (hp : p < az_a Z 0) : zI s (zTell Z p) ∧ zLe Z (zTell Z p) := by
  unfold zTell
  dsimp only
  have l1 := zLe_tellL (az_a Z 0) Z p 0 (by omega)
  have h1 := zI.tellL (az_a Z 0) Z p 0 h hp (by omega)
  have l2 := zLe_tellW (az_w (zTellL (az_a Z 0) Z p 0)) (zTellL (az_a Z 0) Z p 0) p h1.wn
  have h2 := zI.tellW (az_w (zTellL (az_a Z 0) Z p 0)) (zTellL (az_a Z 0) Z p 0) p h1 (by rw [l1.1]; exact hp) h1.wn
  exact ⟨h2.wfil _, (l1.tr l2).tr zLe_w⟩
theorem zI.a2 {s : Nat} {Z : az} (h : zI s Z) (h2 : az_a Z 2 < az_a Z 1) : zI s (zs_a Z 2 (az_a Z 2 + 1)) := by
  obtain ⟨h1, h2', h3, h4, h5, h6⟩ := h
  exact ⟨h1, h2', h3, h4, ⟨h5.1, h2, h5.2.2⟩, h6⟩
theorem zI.spread {s : Nat} : ∀ (k : Nat) (Z : az), zI s Z → zI s (zSpread k Z) ∧ zLe Z (zSpread k Z)
  | 0, Z, h => ⟨h, zLe.rf⟩
  | k + 1, Z, h => by
    rw [zSpread]
    by_cases e : az_a Z 2 < az_a Z 1
    · rw [if_pos e]
      have h1 := (h.a2 e).tell (show az_c Z 3 0 (az_a Z 2) < az_a Z 0 from (h.2.2.2.2.1.2.2 _ e).1)
      have h2 := zI.spread k _ h1.1
      exact ⟨h2.1, ((zLe.of (Z := Z) (W := zs_a Z 2 (az_a Z 2 + 1)) rfl (fun _ => rfl)).tr h1.2).tr h2.2⟩
    · rw [if_neg e]
      exact ⟨h, zLe.rf⟩
section ZL
variable {Z : az} {s : Nat}
theorem zI.fails {p : Nat} {w : List Int32} (h : zI s Z) (hp : p < az_a Z 0) (h0 : az_b Z 1 p ≠ 2) (hw : tW (az_a Z 0) w) : zI s (zFails Z p w) := by
  unfold zFails
  by_cases e : az_b Z 8 p = 0
  · rw [if_pos e]; exact h.dies hp h0 hw
  · rw [if_neg e]
    dsimp only
    have c := (h.2.2.2.1 p hp).2 (az_b Z 8 p - 1) (by omega)
    exact (((h.s7 (i := 8) (p := p) (v := az_b Z 8 p - 1) (by omega) (by omega) hp).sb (i := 2) (p := p) (v := az_c Z 1 p (az_b Z 8 p - 1)) (by omega) (fun _ => by show _ ≤ 299; omega)).s7 (i := 7) (p := p) (v := min (az_b Z 7 p) (az_c Z 2 p (az_b Z 8 p - 1))) (by omega) (by rw [z_b_bne (by omega), z_b_bne (by omega)]; omega) hp).t0 hw
theorem zLe_fails {p : Nat} {w : List Int32} : zLe Z (zFails Z p w) := by
  unfold zFails
  split
  · exact zLe_dies
  · exact zLe.of rfl (fun q => by dsimp only; rw [z_b_t, z_b_bne (by omega), z_b_bne (by omega), z_b_bne (by omega)])
theorem zCnt_n {W : az} (v k : Nat) (h : ∀ p, p < k → az_b W 1 p = az_b Z 1 p) (h2 : az_b W 1 k ≠ v) : zCnt W v (k + 1) = zCnt Z v k := by
  rw [zCnt_s, zCnt_eq k h, if_neg h2]
  rfl
/-- a new process -/
theorem zI.new {a pr : Nat} (h : zI s Z) (hn : az_a Z 0 < 60) (ha : a < 300) (hpr : pr ≤ 2) : zI s (zNew Z a pr) := by
  obtain ⟨h1, h2, h3, h4, h5, h6, h7, h8, h9, h10, h11, h12⟩ := id h
  unfold zNew
  refine zI.turn ?_ (show az_a Z 0 < az_a Z 0 + 1 by omega)
  have hb := z_b_n Z a pr
  have he := z_e_n Z a pr
  have ht := z_t_n Z a pr
  have ha' := z_a_n Z a pr
  have hc : az_c (zs_n Z a pr) = az_c Z := rfl
  have hf : az_f (zs_n Z a pr) = az_f Z := rfl
  have hw : az_w (zs_n Z a pr) = az_w Z := rfl
  generalize zs_n Z a pr = X at hb he ht ha' hc hf hw ⊢
  have a0 : az_a X 0 = az_a Z 0 + 1 := ha' 0
  have bne : ∀ i q, q < az_a Z 0 → az_b X i q = az_b Z i q := fun i q hq => by rw [hb, if_neg (by omega)]
  have t0 : ∀ i q k, q < az_a Z 0 → az_t X i q k = az_t Z i q k := fun i q k hq => by rw [ht, if_neg (by omega)]
  have b1n : az_b X 1 (az_a Z 0) = 0 := by rw [hb, if_pos rfl]; simp
  have cn : ∀ v, v ≠ 0 → zCnt X v (az_a Z 0 + 1) = zCnt Z v (az_a Z 0) := fun v hv => zCnt_n v _ (fun q hq => bne 1 q hq) (by rw [b1n]; omega)
  have n0 : tW (az_a Z 0 + 1) [0, 0] := tW.num 0
  have an : ∀ i, i ≠ 0 → az_a X i = az_a Z i := fun i hi => by rw [ha', if_neg hi]
  refine ⟨by rw [a0]; omega, fun q hq i hi => ?_, fun q hq => ?_, fun q hq => ?_, ⟨?_, ?_, fun k hk => ?_⟩, ⟨fun q hq b => ?_, fun b q => ?_⟩, fun q r => ?_, fun q hq => ?_, ⟨by rw [hw]; exact h9.1, fun t => ?_⟩, fun q hq u => ?_, ⟨?_, ?_⟩, ?_⟩
  · rw [hb]
    by_cases e : q = az_a Z 0
    · rw [if_pos e]
      split
      · rename_i e1; subst e1; exact hpr
      · split
        · rename_i e1; subst e1; show a ≤ 299; omega
        · exact Nat.zero_le _
    · rw [if_neg e]
      exact h2 q (by omega) i hi
  · by_cases e : q = az_a Z 0
    · rw [hb, hb, hb, if_pos e, if_pos e, if_pos e]
      simp
    · rw [bne 10 q (by omega), bne 9 q (by omega), bne 12 q (by omega)]
      exact h3 q (by omega)
  · by_cases e : q = az_a Z 0
    · rw [hb, hb, if_pos e, if_pos e]
      exact ⟨fun i hi => absurd hi (by simp), fun i hi => absurd hi (by simp)⟩
    · rw [bne 7 q (by omega), bne 8 q (by omega), hc]
      exact h4 q (by omega)
  · rw [an 1 (by decide), a0, cn 2 (by decide)]; exact h5.1
  · rw [an 1 (by decide), an 2 (by decide)]; exact h5.2.1
  · rw [an 1 (by decide)] at hk
    rw [hc, a0, bne 1 _ (h5.2.2 k hk).1]
    exact ⟨by have := (h5.2.2 k hk).1; omega, (h5.2.2 k hk).2⟩
  · rw [he, he]
    by_cases e : q = az_a Z 0
    · rw [if_pos ⟨Or.inl rfl, e⟩]; intro z; cases z
    · rw [if_neg (fun z => e z.2), if_neg (by omega)]
      exact h6.1 q (by omega) b
  · rw [he, he, if_neg (by omega)]
    intro z
    obtain ⟨q1, q2, q3, q4⟩ := h6.2 b q z
    rw [a0, bne 1 q q2, if_neg (by omega)]
    exact ⟨q1, by omega, q3, q4⟩
  · rw [hf, a0]
    intro z
    obtain ⟨q1, q2, q3, q4⟩ := h7 q r z
    exact ⟨by omega, by omega, q3, q4⟩
  · rw [a0]
    by_cases e : q = az_a Z 0
    · refine ⟨fun j hj => ?_, ?_, fun k hk => ?_⟩
      · rw [ht, if_pos ⟨e, Or.inl ⟨rfl, hj⟩⟩]; exact n0
      · rw [ht, if_pos ⟨e, Or.inr ⟨rfl, rfl⟩⟩]; exact n0
      · rw [hb, if_pos e] at hk
        exact absurd hk (by simp)
    · obtain ⟨q1, q2, q3⟩ := h8 q (by omega)
      refine ⟨fun j hj => ?_, ?_, fun k hk => ?_⟩
      · rw [t0 _ _ _ (by omega)]; exact (q1 j hj).mono (by omega)
      · rw [t0 _ _ _ (by omega)]; exact q2.mono (by omega)
      · rw [bne 9 q (by omega)] at hk
        rw [t0 _ _ _ (by omega)]; exact (q3 k hk).mono (by omega)
  · rw [hw, a0]
    intro z
    have := h9.2 t z
    omega
  · rw [he, an 6 (by decide)]
    by_cases e : q = az_a Z 0
    · rw [if_pos ⟨Or.inr rfl, e⟩]; intro z; cases z
    · rw [if_neg (fun z => e z.2)]
      exact h10 q (by omega) u
  · rw [an 3 (by decide), an 4 (by decide), an 5 (by decide), a0, cn 1 (by decide)]
    have := h11.1
    omega
  · rw [an 9 (by decide), an 5 (by decide)]; exact h11.2
  · unfold iQ
    rw [an 4 (by decide), an 5 (by decide), an 6 (by decide)]; exact h12
end ZL
