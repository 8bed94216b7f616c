/-! what always holds of the abstract state; s: how much room is left for turns and prints -/
def zbd : Nat → Nat
  | 0 => 2 | 1 => 2 | 2 => 299 | 3 => 299 | 4 => 299 | 5 => 1073741824 | 7 => 16 | 8 => 8 | 9 => 40 | 10 => 40 | 11 => 1 | 12 => 40
  | _ => 0
/-- how many of the first k have the state v -/
def zCt (g : Nat → Nat) (v : Nat) : Nat → Nat
  | 0 => 0
  | k + 1 => zCt g v k + (if g k = v then 1 else 0)
def zCnt (Z : az) (v k : Nat) : Nat := zCt (az_b Z 1) v k
theorem zCnt_s (Z : az) (v k : Nat) : zCnt Z v (k + 1) = zCnt Z v k + (if az_b Z 1 k = v then 1 else 0) := rfl
def iB (Z : az) : Prop := ∀ p, p < az_a Z 0 → ∀ i, i ≠ 6 → az_b Z i p ≤ zbd i
def iR (Z : az) : Prop := ∀ p, p < az_a Z 0 → az_b Z 10 p ≤ az_b Z 9 p ∧ az_b Z 9 p ≤ az_b Z 12 p
def iC (Z : az) : Prop := ∀ p, p < az_a Z 0 → (∀ i, i < az_b Z 7 p → az_c Z 0 p i < 300) ∧ ∀ i, i < az_b Z 8 p → az_c Z 1 p i < 300 ∧ az_c Z 2 p i ≤ 16
def iD (Z : az) : Prop := az_a Z 1 = zCnt Z 2 (az_a Z 0) ∧ az_a Z 2 ≤ az_a Z 1 ∧ ∀ i, i < az_a Z 1 → az_c Z 3 0 i < az_a Z 0 ∧ az_b Z 1 (az_c Z 3 0 i) = 2
def iE (Z : az) : Prop := (∀ p, p < az_a Z 0 → ∀ a, az_e Z 0 p = some a → az_e Z 2 a = some p) ∧ ∀ a p, az_e Z 2 a = some p → a < 100 ∧ p < az_a Z 0 ∧ az_b Z 1 p ≠ 2 ∧ az_e Z 0 p = some a
def iL (Z : az) : Prop := ∀ p q, az_f Z p q = true → p < az_a Z 0 ∧ q < az_a Z 0 ∧ p ≠ q ∧ az_f Z q p = true
def iT (Z : az) : Prop := ∀ p, p < az_a Z 0 → (∀ j, j < 8 → tW (az_a Z 0) (az_t Z 0 p j)) ∧ tW (az_a Z 0) (az_t Z 1 p 0) ∧ ∀ k, k < az_b Z 9 p → tW (az_a Z 0) (az_t Z 2 p k)
def iW (Z : az) : Prop := (az_w Z).length ≤ 200 ∧ ∀ t, t ∈ az_w Z → t.2.1 < az_a Z 0 ∧ t.2.2 < az_a Z 0
def iM (Z : az) : Prop := ∀ p, p < az_a Z 0 → ∀ u, az_e Z 1 p = some u → u ≤ az_a Z 6 + 2147483648
def iU (s : Nat) (Z : az) : Prop := az_a Z 3 + zCnt Z 1 (az_a Z 0) + s ≤ az_a Z 5 + az_a Z 4 + az_a Z 0 ∧ az_a Z 9 ≤ 95 * az_a Z 5
def iQ (Z : az) : Prop := az_a Z 4 < 1048576 ∧ az_a Z 5 < 16777216 ∧ az_a Z 6 < 16777216
def zI (s : Nat) (Z : az) : Prop := az_a Z 0 ≤ 60 ∧ iB Z ∧ iR Z ∧ iC Z ∧ iD Z ∧ iE Z ∧ iL Z ∧ iT Z ∧ iW Z ∧ iM Z ∧ iU s Z ∧ iQ Z
theorem zCnt_le (Z : az) (v : Nat) : ∀ k, zCnt Z v k ≤ k
  | 0 => Nat.le_refl _
  | k + 1 => by
    have := zCnt_le Z v k
    rw [zCnt_s]
    split <;> omega
theorem zCnt_lt {Z : az} {v p : Nat} (h : az_b Z 1 p ≠ v) : ∀ k, p < k → zCnt Z v k < k
  | 0, hp => by omega
  | k + 1, hp => by
    have := zCnt_le Z v k
    rw [zCnt_s]
    by_cases e : p = k
    · subst e
      rw [if_neg h]
      omega
    · have := zCnt_lt h k (by omega)
      split <;> omega
theorem zCnt_eq {Z W : az} {v : Nat} : ∀ k, (∀ p, p < k → az_b W 1 p = az_b Z 1 p) → zCnt W v k = zCnt Z v k
  | 0, _ => rfl
  | k + 1, h => by
    rw [zCnt_s, zCnt_s, zCnt_eq k (fun p hp => h p (by omega)), h k (by omega)]
theorem zCnt_set {Z W : az} {v p : Nat} (h2 : ∀ q, q ≠ p → az_b W 1 q = az_b Z 1 q) : ∀ k, p < k → zCnt W v k + (if az_b Z 1 p = v then 1 else 0) = zCnt Z v k + (if az_b W 1 p = v then 1 else 0)
  | 0, h => by omega
  | k + 1, h => by
    rw [zCnt_s, zCnt_s]
    by_cases e : p = k
    · rw [zCnt_eq k (fun q hq => h2 q (by omega)), ← e]
      omega
    · have := zCnt_set (v := v) h2 k (by omega)
      rw [h2 k (by omega)]
      omega
section ZI
variable {Z : az} {s : Nat}
theorem zI.n (h : zI s Z) : az_a Z 0 ≤ 60 := h.1
theorem zI.sm (h : zI s Z) : zSm Z := fun p hp i hi => by
  have := h.2.1 p hp i hi
  have h2 : zbd i ≤ 1073741824 := by unfold zbd; split <;> omega
  omega
theorem zI.b (h : zI s Z) {p : Nat} (hp : p < az_a Z 0) (i : Nat) (hi : i ≠ 6 := by decide) : az_b Z i p ≤ zbd i := h.2.1 p hp i hi
theorem zI.down {t : Nat} (h : zI s Z) (ht : t ≤ s) : zI t Z := by
  obtain ⟨h1, h2, h3, h4, h5, h6, h7, h8, h9, h10, ⟨u1, u2⟩, h12⟩ := h
  exact ⟨h1, h2, h3, h4, h5, h6, h7, h8, h9, h10, ⟨by omega, by omega⟩, h12⟩
theorem iB.set {i p v : Nat} (h : iB Z) (hv : i ≠ 6 → v ≤ zbd i) : iB (zs_b Z i p v) := fun q hq j hj => by
  rw [z_b_b]
  by_cases e : j = i ∧ q = p
  · rw [if_pos e, e.1]
    exact hv (by omega)
  · rw [if_neg e]
    exact h q hq j hj
/-- numbers of a process that nothing hangs on -/
theorem zI.sb {i p v : Nat} (h : zI s Z) (hi : i = 0 ∨ i = 2 ∨ i = 3 ∨ i = 4 ∨ i = 5 ∨ i = 6 ∨ i = 11) (hv : i ≠ 6 → v ≤ zbd i) : zI s (zs_b Z i p v) := by
  obtain ⟨h1, h2, h3, h4, h5, h6, h7, h8, h9, h10, h11, h12⟩ := h
  have e : ∀ j q, j = 1 ∨ j = 7 ∨ j = 8 ∨ j = 9 ∨ j = 10 ∨ j = 12 → az_b (zs_b Z i p v) j q = az_b Z j q := fun j q hj => z_b_bne (by omega)
  have ec : ∀ u k, zCnt (zs_b Z i p v) u k = zCnt Z u k := fun u k => zCnt_eq k (fun q _ => e 1 q (by omega))
  refine ⟨h1, h2.set hv, fun q hq => ?_, fun q hq => ?_, ⟨?_, h5.2.1, fun k hk => ?_⟩, ⟨h6.1, fun a q hq => ?_⟩, h7, fun q hq => ?_, h9, h10, ⟨?_, h11.2⟩, h12⟩
  · rw [e 10 q (by omega), e 9 q (by omega), e 12 q (by omega)]; exact h3 q hq
  · rw [e 7 q (by omega), e 8 q (by omega)]; exact h4 q hq
  · rw [ec]; exact h5.1
  · rw [e 1 _ (by omega)]; exact h5.2.2 k hk
  · rw [e 1 _ (by omega)]; exact h6.2 a q hq
  · rw [e 9 _ (by omega)]; exact h8 q hq
  · rw [ec]; exact h11.1
/-- the pointer -/
theorem zI.s10 {p v : Nat} (h : zI s Z) (hv : v ≤ az_b Z 9 p) : zI s (zs_b Z 10 p v) := by
  obtain ⟨h1, h2, h3, h4, h5, h6, h7, h8, h9, h10, h11, h12⟩ := h
  by_cases hp : p < az_a Z 0
  · have b9 : az_b Z 9 p ≤ 40 := h2 p hp 9 (by decide)
    have ec : ∀ u k, zCnt (zs_b Z 10 p v) u k = zCnt Z u k := fun u k => zCnt_eq k (fun q _ => z_b_bne (by decide))
    refine ⟨h1, h2.set (fun _ => by show v ≤ 40; omega), fun q hq => ?_, fun q hq => ?_, ⟨?_, h5.2.1, fun k hk => ?_⟩, ⟨h6.1, fun a q hq => ?_⟩, h7, fun q hq => ?_, h9, h10, ⟨?_, h11.2⟩, h12⟩
    · rw [z_b_bne (i := 9) (by decide), z_b_bne (i := 12) (by decide), z_b_b]
      by_cases e : q = p
      · rw [if_pos ⟨rfl, e⟩, e]
        exact ⟨hv, (h3 p hp).2⟩
      · rw [if_neg (fun z => e z.2)]
        exact h3 q hq
    · rw [z_b_bne (by decide), z_b_bne (by decide)]; exact h4 q hq
    · rw [ec]; exact h5.1
    · rw [z_b_bne (by decide)]; exact h5.2.2 k hk
    · rw [z_b_bne (by decide)]; exact h6.2 a q hq
    · rw [z_b_bne (by decide)]; exact h8 q hq
    · rw [ec]; exact h11.1
  · have e : ∀ j q, q < az_a Z 0 → az_b (zs_b Z 10 p v) j q = az_b Z j q := fun j q hq => by rw [z_b_b, if_neg (fun z => by omega)]
    have ec : ∀ u, zCnt (zs_b Z 10 p v) u (az_a Z 0) = zCnt Z u (az_a Z 0) := fun u => zCnt_eq _ (fun q hq => e 1 q hq)
    refine ⟨h1, fun q hq i hi => ?_, fun q hq => ?_, fun q hq => ?_, ⟨?_, h5.2.1, fun k hk => ?_⟩, ⟨h6.1, fun a q hq => ?_⟩, h7, fun q hq => ?_, h9, h10, ⟨?_, h11.2⟩, h12⟩
    · rw [e i q hq]; exact h2 q hq i hi
    · rw [e 10 q hq, e 9 q hq, e 12 q hq]; exact h3 q hq
    · rw [e 7 q hq, e 8 q hq]; exact h4 q hq
    · show az_a Z 1 = zCnt (zs_b Z 10 p v) 2 (az_a Z 0)
      rw [ec]; exact h5.1
    · rw [z_b_bne (by decide)]; exact h5.2.2 k hk
    · rw [z_b_bne (by decide)]; exact h6.2 a q hq
    · rw [e 9 q hq]; exact h8 q hq
    · show az_a Z 3 + zCnt (zs_b Z 10 p v) 1 (az_a Z 0) + s ≤ _
      rw [ec]; exact h11.1
/-- fewer words to come back to, fewer catches -/
theorem zI.s7 {i p v : Nat} (h : zI s Z) (hi : i = 7 ∨ i = 8) (hv : v ≤ az_b Z i p) (hp : p < az_a Z 0) : zI s (zs_b Z i p v) := by
  obtain ⟨h1, h2, h3, h4, h5, h6, h7, h8, h9, h10, h11, h12⟩ := h
  have b9 := h2 p hp i (by omega)
  have ec : ∀ u k, zCnt (zs_b Z i p v) u k = zCnt Z u k := fun u k => zCnt_eq k (fun q _ => z_b_bne (by omega))
  refine ⟨h1, h2.set (fun _ => by omega), fun q hq => ?_, fun q hq => ?_, ⟨?_, h5.2.1, fun k hk => ?_⟩, ⟨h6.1, fun a q hq => ?_⟩, h7, fun q hq => ?_, h9, h10, ⟨?_, h11.2⟩, h12⟩
  · rw [z_b_bne (by omega), z_b_bne (by omega), z_b_bne (by omega)]; exact h3 q hq
  · obtain ⟨a, b⟩ := h4 q hq
    refine ⟨fun k hk => a k ?_, fun k hk => b k ?_⟩
    · rw [z_b_b] at hk
      by_cases e : 7 = i ∧ q = p
      · rw [if_pos e] at hk; rw [e.1, e.2]; omega
      · rw [if_neg e] at hk; exact hk
    · rw [z_b_b] at hk
      by_cases e : 8 = i ∧ q = p
      · rw [if_pos e] at hk; rw [e.1, e.2]; omega
      · rw [if_neg e] at hk; exact hk
  · rw [ec]; exact h5.1
  · rw [z_b_bne (by omega)]; exact h5.2.2 k hk
  · rw [z_b_bne (by omega)]; exact h6.2 a q hq
  · rw [z_b_bne (by omega)]; exact h8 q hq
  · rw [ec]; exact h11.1
/-- a word more to come back to -/
theorem zI.push7 {p v : Nat} (h : zI s Z) (hp : p < az_a Z 0) (h16 : az_b Z 7 p < 16) (hv : v < 300) : zI s (zs_b (zs_c Z 0 p (az_b Z 7 p) v) 7 p (az_b Z 7 p + 1)) := by
  obtain ⟨h1, h2, h3, h4, h5, h6, h7, h8, h9, h10, h11, h12⟩ := h
  have ec : ∀ u k, zCnt (zs_b (zs_c Z 0 p (az_b Z 7 p) v) 7 p (az_b Z 7 p + 1)) u k = zCnt Z u k := fun u k => zCnt_eq k (fun q _ => by rw [z_b_bne (by omega), z_b_c])
  refine ⟨h1, iB.set (Z := zs_c Z 0 p (az_b Z 7 p) v) h2 (fun _ => by show _ ≤ 16; omega), fun q hq => ?_, fun q hq => ?_, ⟨?_, h5.2.1, fun k hk => ?_⟩, ⟨h6.1, fun a q hq => ?_⟩, h7, fun q hq => ?_, h9, h10, ⟨?_, h11.2⟩, h12⟩
  · rw [z_b_bne (by omega), z_b_bne (by omega), z_b_bne (by omega)]; exact h3 q hq
  · obtain ⟨a, b⟩ := h4 q hq
    refine ⟨fun k hk => ?_, fun k hk => ?_⟩
    · rw [z_b_b] at hk
      rw [z_c_b, z_c_c]
      by_cases e : 0 = 0 ∧ q = p ∧ k = az_b Z 7 p
      · rw [if_pos e]; exact hv
      · rw [if_neg e]
        by_cases e2 : q = p
        · rw [if_pos ⟨rfl, e2⟩] at hk
          exact a k (by rw [e2]; omega)
        · rw [if_neg (fun z => e2 z.2)] at hk
          exact a k hk
    · rw [z_b_bne (by omega)] at hk
      rw [z_c_b, z_c_c, if_neg (by omega), z_c_b, z_c_c, if_neg (by omega)]
      exact b k hk
  · rw [ec]; exact h5.1
  · rw [z_b_bne (by omega), z_c_b, z_c_c, if_neg (by omega)]; exact h5.2.2 k hk
  · rw [z_b_bne (by omega)]; exact h6.2 a q hq
  · rw [z_b_bne (by omega)]; exact h8 q hq
  · rw [ec]; exact h11.1
/-- a catch more -/
theorem zI.push8 {p v : Nat} (h : zI s Z) (hp : p < az_a Z 0) (h16 : az_b Z 8 p < 8) (hv : v < 300) : zI s (zs_b (zs_c (zs_c Z 1 p (az_b Z 8 p) v) 2 p (az_b Z 8 p) (az_b Z 7 p)) 8 p (az_b Z 8 p + 1)) := by
  have b7 : az_b Z 7 p ≤ 16 := h.b hp 7
  obtain ⟨h1, h2, h3, h4, h5, h6, h7, h8, h9, h10, h11, h12⟩ := h
  have ec : ∀ u k, zCnt (zs_b (zs_c (zs_c Z 1 p (az_b Z 8 p) v) 2 p (az_b Z 8 p) (az_b Z 7 p)) 8 p (az_b Z 8 p + 1)) u k = zCnt Z u k := fun u k => zCnt_eq k (fun q _ => by rw [z_b_bne (by omega), z_b_c, z_b_c])
  refine ⟨h1, iB.set (Z := zs_c (zs_c Z 1 p (az_b Z 8 p) v) 2 p (az_b Z 8 p) (az_b Z 7 p)) h2 (fun _ => by show _ ≤ 8; omega), fun q hq => ?_, fun q hq => ?_, ⟨?_, h5.2.1, fun k hk => ?_⟩, ⟨h6.1, fun a q hq => ?_⟩, h7, fun q hq => ?_, h9, h10, ⟨?_, h11.2⟩, h12⟩
  · rw [z_b_bne (by omega), z_b_bne (by omega), z_b_bne (by omega)]; exact h3 q hq
  · obtain ⟨a, b⟩ := h4 q hq
    refine ⟨fun k hk => ?_, fun k hk => ?_⟩
    · rw [z_b_bne (by omega)] at hk
      rw [z_c_b, z_c_c, if_neg (by omega), z_c_c, if_neg (by omega)]
      exact a k hk
    · rw [z_b_b] at hk
      rw [z_c_b, z_c_c, if_neg (by omega), z_c_c, z_c_b, z_c_c]
      by_cases e : q = p ∧ k = az_b Z 8 p
      · rw [if_pos ⟨rfl, e⟩, if_pos ⟨rfl, e⟩]; exact ⟨hv, b7⟩
      · rw [if_neg (fun z => e z.2), if_neg (fun z => e z.2), z_c_c, if_neg (by omega)]
        by_cases e2 : q = p
        · rw [if_pos ⟨rfl, e2⟩] at hk
          exact b k (by rw [e2]; omega)
        · rw [if_neg (fun z => e2 z.2)] at hk
          exact b k hk
  · rw [ec]; exact h5.1
  · rw [z_b_bne (by omega), z_c_b, z_c_c, if_neg (by omega), z_c_c, if_neg (by omega)]; exact h5.2.2 k hk
  · rw [z_b_bne (by omega)]; exact h6.2 a q hq
  · rw [z_b_bne (by omega)]; exact h8 q hq
  · rw [ec]; exact h11.1
/-- a register -/
theorem zI.t0 {p j : Nat} {w : List Int32} (h : zI s Z) (hw : tW (az_a Z 0) w) : zI s (zs_t Z 0 p j w) := by
  obtain ⟨h1, h2, h3, h4, h5, h6, h7, h8, h9, h10, h11, h12⟩ := h
  refine ⟨h1, h2, h3, h4, h5, h6, h7, fun q hq => ?_, h9, h10, h11, h12⟩
  obtain ⟨a, b, c⟩ := h8 q hq
  refine ⟨fun i hi => ?_, ?_, fun k hk => ?_⟩
  · rw [z_t_t]
    by_cases e : 0 = 0 ∧ q = p ∧ i = j
    · rw [if_pos e]; exact hw
    · rw [if_neg e]; exact a i hi
  · rw [z_t_t, if_neg (by omega)]; exact b
  · rw [z_t_t, if_neg (by omega)]; exact c k hk
/-- messages that came, watches made -/
theorem zI.sa {i v : Nat} (h : zI s Z) (hi : i = 7 ∨ i = 8) : zI s (zs_a Z i v) := by
  rcases hi with rfl | rfl <;> exact h
/-- links -/
theorem zI.lk {p q : Nat} {v : Bool} (h : zI s Z) (hp : p < az_a Z 0) (hq : q < az_a Z 0) (hpq : p ≠ q) : zI s (zLink Z p q v) := by
  obtain ⟨h1, h2, h3, h4, h5, h6, h7, h8, h9, h10, h11, h12⟩ := h
  refine ⟨h1, h2, h3, h4, h5, h6, fun a b e => ?_, h8, h9, h10, h11, h12⟩
  show a < az_a Z 0 ∧ b < az_a Z 0 ∧ a ≠ b ∧ az_f (zs_f (zs_f Z p q v) q p v) b a = true
  unfold zLink at e
  rw [z_f_f, z_f_f] at e ⊢
  by_cases e1 : a = q ∧ b = p
  · rw [if_pos e1] at e
    rw [if_neg (by omega), if_pos ⟨e1.2, e1.1⟩]
    exact ⟨by omega, by omega, by omega, e⟩
  · rw [if_neg e1] at e
    by_cases e2 : a = p ∧ b = q
    · rw [if_pos e2] at e
      rw [if_pos ⟨e2.2, e2.1⟩]
      exact ⟨by omega, by omega, by omega, e⟩
    · rw [if_neg e2] at e
      rw [if_neg (by omega), if_neg (by omega)]
      exact h7 a b e
/-- the watches -/
theorem zI.sw {V : List (Nat × Nat × Nat)} (h : zI s Z) (hl : V.length ≤ 200) (hV : ∀ t, t ∈ V → t.2.1 < az_a Z 0 ∧ t.2.2 < az_a Z 0) : zI s (zs_w Z V) := by
  obtain ⟨h1, h2, h3, h4, h5, h6, h7, h8, h9, h10, h11, h12⟩ := h
  exact ⟨h1, h2, h3, h4, h5, h6, h7, h8, ⟨hl, hV⟩, h10, h11, h12⟩
theorem zI.wfil (f : Nat × Nat × Nat → Bool) (h : zI s Z) : zI s (zs_w Z ((az_w Z).filter f)) := h.sw (Nat.le_trans (List.length_filter_le _ _) h.2.2.2.2.2.2.2.2.1.1) (fun t ht => h.2.2.2.2.2.2.2.2.1.2 t (List.mem_filter.mp ht).1)
/-- until when it waits -/
theorem zI.e1 {p : Nat} {r : Option Nat} (h : zI s Z) (hr : ∀ u, r = some u → u ≤ az_a Z 6 + 2147483648) : zI s (zs_e Z 1 p r) := by
  obtain ⟨h1, h2, h3, h4, h5, h6, h7, h8, h9, h10, h11, h12⟩ := h
  refine ⟨h1, h2, h3, h4, h5, ⟨fun q hq a => ?_, fun a q => ?_⟩, h7, h8, h9, fun q hq u => ?_, h11, h12⟩
  · rw [z_e_e, if_neg (by omega), z_e_e, if_neg (by omega)]
    exact h6.1 q hq a
  · rw [z_e_e, if_neg (by omega), z_e_e, if_neg (by omega)]
    exact h6.2 a q
  · rw [z_e_e]
    by_cases e : 1 = 1 ∧ q = p
    · rw [if_pos e]; exact hr u
    · rw [if_neg e]; exact h10 q hq u
/-- the last turn is its -/
theorem zI.turn {p : Nat} (h : zI (s + 1) Z) (hp : p < az_a Z 0) : zI s (zTurn Z p) := by
  have hb := h.2.2.2.2.2.2.2.2.2.2
  have h3 : az_a Z 3 ≤ 1073741824 := by
    obtain ⟨⟨u1, u2⟩, q1, q2, q3⟩ := hb
    have := h.1
    omega
  have h9 := (h.down (by omega : s ≤ s + 1)).sb (i := 5) (p := p) (v := az_a Z 3) (by omega) (fun _ => h3)
  obtain ⟨h1, h2, h3, h4, h5, h6, h7, h8, h9, h10, h11, h12⟩ := h9
  have ec : ∀ u k, zCnt (zs_a (zs_b Z 5 p (az_a Z 3)) 3 (az_a Z 3 + 1)) u k = zCnt Z u k := fun u k => zCnt_eq k (fun q _ => by rw [z_b_a, z_b_bne (by omega)])
  refine ⟨h1, h2, h3, h4, h5, h6, h7, h8, h9, h10, ⟨?_, ?_⟩, h12⟩
  · show az_a Z 3 + 1 + zCnt (zs_a (zs_b Z 5 p (az_a Z 3)) 3 (az_a Z 3 + 1)) 1 (az_a Z 0) + s ≤ az_a Z 5 + az_a Z 4 + az_a Z 0
    rw [ec]
    have := hb.1.1
    omega
  · exact h11.2
end ZI
