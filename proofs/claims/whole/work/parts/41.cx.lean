/-! the class's objects with the number of rows that each mailbox has made; what the objects cost -/
theorem tbB_i {f c i : Nat} (h : tbB f = some (c, i)) : i < 12 := by
  unfold tbB at h
  split at h <;> first | (cases h; done) | (cases h; decide)
theorem z_b_bne {Z : az} {i j p q v : Nat} (h : i ≠ j) : az_b (zs_b Z j p v) i q = az_b Z i q := by rw [z_b_b, if_neg (fun z => h z.1)]
/-- what is only counted -/
theorem pm_CR.b12 {Z : az} {S E : pm_S} {Y : pm_Y} {p v : Nat} (h : pm_CR Z S Y E) : pm_CR (zs_b Z 12 p v) S Y E := by
  obtain ⟨g1, g2, g3, g4, g5, g6, g7, g8, g9, g10, g11, g12, g13, g14, g15⟩ := h
  refine ⟨g1, g2, g3, g4, fun q hq f c i ht => ?_, g6, g7, g8, g9, fun q hq => ?_, g11, g12, g13, fun q hq => ?_, g15⟩
  · rw [z_b_bne (by have := tbB_i ht; omega)]
    exact g5 q hq f c i ht
  · rw [z_b_bne (by decide), z_b_bne (by decide)]
    exact g10 q hq
  · rw [z_b_bne (by decide)]
    exact g14 q hq
def pm_CX (Z : az) (S : pm_S) (Y : pm_Y) (E : pm_S) : Prop := pm_CR Z S Y E ∧ ∀ p, p < az_a Z 0 → Y.2.1 p = az_b Z 12 p
def zUk (Z : az) : Nat → Nat
  | 0 => 0
  | k + 1 => zUk Z k + 26 + 2 * az_b Z 12 k
def zU (Z : az) : Nat := zUk Z (az_a Z 0)
theorem zUk_eq {Z W : az} : ∀ k, (∀ p, p < k → az_b W 12 p = az_b Z 12 p) → zUk W k = zUk Z k
  | 0, _ => rfl
  | k + 1, h => by
    unfold zUk
    rw [zUk_eq k (fun p hp => h p (by omega)), h k (by omega)]
theorem zUk_set {Z W : az} {p v : Nat} (h1 : az_b W 12 p = az_b Z 12 p + v) (h2 : ∀ q, q ≠ p → az_b W 12 q = az_b Z 12 q) : ∀ k, p < k → zUk W k = zUk Z k + 2 * v
  | 0, h => by omega
  | k + 1, h => by
    unfold zUk
    by_cases e : p = k
    · rw [zUk_eq k (fun q hq => h2 q (by omega)), ← e, h1]
      omega
    · rw [zUk_set h1 h2 k (by omega), h2 k (by omega)]
      omega
theorem zU_eq {Z W : az} (h0 : az_a W 0 = az_a Z 0) (h : ∀ p, p < az_a Z 0 → az_b W 12 p = az_b Z 12 p) : zU W = zU Z := by
  unfold zU
  rw [h0, zUk_eq _ h]
