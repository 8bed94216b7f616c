/-! the reference: what its writes do to the relation -/
section MRM
variable {b : Nat} {Z : az} {M : pm_N}
theorem mR.tt (h : mR b Z M) {M2 : pm_N} {i p k : Nat} {w : List Int32} (e1 : ∀ s k, 2 ≤ s → M2.1 s k = M.1 s k) (e2 : M2.2 = M.2) (hG : rG (zs_t Z i p k w) M2) : mR b (zs_t Z i p k w) M2 := by
  obtain ⟨g1, g2, g3, g4, g5, g6, g7, g8, g9, g10, g11, g12⟩ := h
  refine ⟨?_, ?_, ?_, ?_, ?_, ?_, ?_, ?_, ?_, ?_, ?_, ?_⟩
  · exact fun q hq s i hs => by have := tmB_s hs; rw [e1 s q (by omega)]; exact g1 q hq s i hs
  · exact fun f i hf => by rw [e2]; exact g2 f i hf
  · exact fun q hq => by rw [e1 23 q (by decide)]; exact g3 q hq
  · exact fun q hq => by rw [e1 9 q (by decide)]; exact g4 q hq
  · exact fun q hq => by rw [e1 22 q (by decide), e1 19 q (by decide), e1 21 q (by decide), e1 20 q (by decide)]; exact g5 q hq
  · exact fun q hq => rK_cg (g6 q hq) (fun i => e1 13 i (by decide)) (fun i => e1 15 i (by decide)) (fun i => e1 16 i (by decide)) rfl rfl rfl
  · exact fun q r hq hr => by rw [e1 24 _ (by decide)]; exact g7 q r hq hr
  · exact ⟨by rw [e2]; exact g8.1, fun i t hi => by rw [e1 27 i (by decide), e1 28 i (by decide), e1 29 i (by decide)]; exact g8.2 i t hi⟩
  · exact ⟨fun k hk => by rw [e1 2 k (by decide), e1 3 k (by decide), e1 4 k (by decide), e1 5 k (by decide)]; exact g9.1 k hk, fun i hi hi2 => by rw [e1 34 i (by decide)]; exact g9.2 i hi hi2⟩
  · exact ⟨by rw [e2]; exact g10.1, g10.2.1, fun i hi => by rw [e1 32 i (by decide)]; exact g10.2.2 i hi⟩
  · exact hG
  · exact fun q hq hq2 s hs => by rw [e1 s q (by omega)]; exact g12 q hq hq2 s hs
theorem mR.tt0 (h : mR b Z M) {M2 : pm_N} (e1 : ∀ s k, 2 ≤ s → M2.1 s k = M.1 s k) (e2 : M2.2 = M.2) (hG : rG Z M2) : mR b Z M2 := by
  obtain ⟨g1, g2, g3, g4, g5, g6, g7, g8, g9, g10, g11, g12⟩ := h
  refine ⟨?_, ?_, ?_, ?_, ?_, ?_, ?_, ?_, ?_, ?_, ?_, ?_⟩
  · exact fun q hq s i hs => by have := tmB_s hs; rw [e1 s q (by omega)]; exact g1 q hq s i hs
  · exact fun f i hf => by rw [e2]; exact g2 f i hf
  · exact fun q hq => by rw [e1 23 q (by decide)]; exact g3 q hq
  · exact fun q hq => by rw [e1 9 q (by decide)]; exact g4 q hq
  · exact fun q hq => by rw [e1 22 q (by decide), e1 19 q (by decide), e1 21 q (by decide), e1 20 q (by decide)]; exact g5 q hq
  · exact fun q hq => rK_cg (g6 q hq) (fun i => e1 13 i (by decide)) (fun i => e1 15 i (by decide)) (fun i => e1 16 i (by decide)) rfl rfl rfl
  · exact fun q r hq hr => by rw [e1 24 _ (by decide)]; exact g7 q r hq hr
  · exact ⟨by rw [e2]; exact g8.1, fun i t hi => by rw [e1 27 i (by decide), e1 28 i (by decide), e1 29 i (by decide)]; exact g8.2 i t hi⟩
  · exact ⟨fun k hk => by rw [e1 2 k (by decide), e1 3 k (by decide), e1 4 k (by decide), e1 5 k (by decide)]; exact g9.1 k hk, fun i hi hi2 => by rw [e1 34 i (by decide)]; exact g9.2 i hi hi2⟩
  · exact ⟨by rw [e2]; exact g10.1, g10.2.1, fun i hi => by rw [e1 32 i (by decide)]; exact g10.2.2 i hi⟩
  · exact hG
  · exact fun q hq hq2 s hs => by rw [e1 s q (by omega)]; exact g12 q hq hq2 s hs
theorem mR.tm (h : mR b Z M) {M2 : pm_N} {p : Nat} {g : Nat → List Int32} (e1 : ∀ s k, 2 ≤ s → M2.1 s k = M.1 s k) (e2 : M2.2 = M.2) (hG : rG (zs_m Z p g) M2) : mR b (zs_m Z p g) M2 := by
  obtain ⟨g1, g2, g3, g4, g5, g6, g7, g8, g9, g10, g11, g12⟩ := h
  refine ⟨?_, ?_, ?_, ?_, ?_, ?_, ?_, ?_, ?_, ?_, ?_, ?_⟩
  · exact fun q hq s i hs => by have := tmB_s hs; rw [e1 s q (by omega)]; exact g1 q hq s i hs
  · exact fun f i hf => by rw [e2]; exact g2 f i hf
  · exact fun q hq => by rw [e1 23 q (by decide)]; exact g3 q hq
  · exact fun q hq => by rw [e1 9 q (by decide)]; exact g4 q hq
  · exact fun q hq => by rw [e1 22 q (by decide), e1 19 q (by decide), e1 21 q (by decide), e1 20 q (by decide)]; exact g5 q hq
  · exact fun q hq => rK_cg (g6 q hq) (fun i => e1 13 i (by decide)) (fun i => e1 15 i (by decide)) (fun i => e1 16 i (by decide)) rfl rfl rfl
  · exact fun q r hq hr => by rw [e1 24 _ (by decide)]; exact g7 q r hq hr
  · exact ⟨by rw [e2]; exact g8.1, fun i t hi => by rw [e1 27 i (by decide), e1 28 i (by decide), e1 29 i (by decide)]; exact g8.2 i t hi⟩
  · exact ⟨fun k hk => by rw [e1 2 k (by decide), e1 3 k (by decide), e1 4 k (by decide), e1 5 k (by decide)]; exact g9.1 k hk, fun i hi hi2 => by rw [e1 34 i (by decide)]; exact g9.2 i hi hi2⟩
  · exact ⟨by rw [e2]; exact g10.1, g10.2.1, fun i hi => by rw [e1 32 i (by decide)]; exact g10.2.2 i hi⟩
  · exact hG
  · exact fun q hq hq2 s hs => by rw [e1 s q (by omega)]; exact g12 q hq hq2 s hs
theorem mT.e1 {M2 : pm_N} {t : Nat} (h : mT M M2 t) : ∀ s k, 2 ≤ s → M2.1 s k = M.1 s k := fun s k hs => h.o (by omega) (by omega)
theorem mR.T {M2 : pm_N} {t : Nat} (h : mR b Z M) (hn : az_a Z 0 ≤ 60) (h9 : ∀ p, p < az_a Z 0 → az_b Z 9 p ≤ 40) (ht : mT M M2 t) (h2 : 2940 ≤ t) : mR b Z M2 := h.tt0 ht.e1 ht.2 (fun q hq => by
  obtain ⟨a1, a2, a3⟩ := h.2.2.2.2.2.2.2.2.2.2.1 q hq
  have := h9 q hq
  exact ⟨fun j hj => ht.sl (by omega) (a1 j hj), fun k hk => ht.sl (by omega) (a2 k hk), fun hd => ht.sl (by omega) (a3 hd)⟩)
theorem mR.reg {M2 : pm_N} {p j : Nat} {w : List Int32} (h : mR b Z M) (hn : az_a Z 0 ≤ 60) (h9 : ∀ p, p < az_a Z 0 → az_b Z 9 p ≤ 40) (hp : p < az_a Z 0) (hj : j < 8) (ht : mT M M2 (8 * p + j)) (hs : sl M2 (8 * p + j) w) : mR b (zs_t Z 0 p j w) M2 := h.tt ht.e1 ht.2 (fun q hq => by
  obtain ⟨a1, a2, a3⟩ := h.2.2.2.2.2.2.2.2.2.2.1 q hq
  have hq : q < az_a Z 0 := hq
  have := h9 q hq
  refine ⟨fun i hi => ?_, fun k hk => ?_, fun hd => ?_⟩
  · rw [z_t_t]
    by_cases e : q = p ∧ i = j
    · rw [if_pos ⟨rfl, e⟩, e.1, e.2]; exact hs
    · rw [if_neg (fun z => e z.2)]; exact ht.sl (by omega) (a1 i hi)
  · have hk : k < az_b Z 9 q := hk
    rw [z_t_t, if_neg (fun z => by omega)]; exact ht.sl (by omega) (a2 k hk)
  · rw [z_t_t, if_neg (fun z => by omega)]; exact ht.sl (by omega) (a3 hd))
theorem mR.rsn {M2 : pm_N} {p : Nat} {w : List Int32} (h : mR b Z M) (hn : az_a Z 0 ≤ 60) (h9 : ∀ p, p < az_a Z 0 → az_b Z 9 p ≤ 40) (hp : p < az_a Z 0) (ht : mT M M2 (2880 + p)) (hs : sl M2 (2880 + p) w) : mR b (zs_t Z 1 p 0 w) M2 := h.tt ht.e1 ht.2 (fun q hq => by
  obtain ⟨a1, a2, a3⟩ := h.2.2.2.2.2.2.2.2.2.2.1 q hq
  have hq : q < az_a Z 0 := hq
  have := h9 q hq
  refine ⟨fun i hi => ?_, fun k hk => ?_, fun hd => ?_⟩
  · rw [z_t_t, if_neg (fun z => by omega)]; exact ht.sl (by omega) (a1 i hi)
  · have hk : k < az_b Z 9 q := hk
    rw [z_t_t, if_neg (fun z => by omega)]; exact ht.sl (by omega) (a2 k hk)
  · rw [z_t_t]
    by_cases e : q = p
    · rw [if_pos ⟨rfl, e, rfl⟩, e]; exact hs
    · rw [if_neg (fun z => e z.2.1)]; exact ht.sl (by omega) (a3 hd))
theorem mR.ms0 {M2 : pm_N} {p : Nat} {w : List Int32} (h : mR b Z M) (hn : az_a Z 0 ≤ 60) (h9 : ∀ p, p < az_a Z 0 → az_b Z 9 p ≤ 40) (hp : p < az_a Z 0) (h40 : az_b Z 9 p < 40) (ht : mT M M2 (480 + 40 * p + az_b Z 9 p)) : mR b (zs_t Z 2 p (az_b Z 9 p) w) M2 := h.tt ht.e1 ht.2 (fun q hq => by
  obtain ⟨a1, a2, a3⟩ := h.2.2.2.2.2.2.2.2.2.2.1 q hq
  have hq : q < az_a Z 0 := hq
  have := h9 q hq
  refine ⟨fun i hi => ?_, fun k hk => ?_, fun hd => ?_⟩
  · rw [z_t_t, if_neg (fun z => by omega)]; exact ht.sl (by omega) (a1 i hi)
  · have hk : k < az_b Z 9 q := hk
    have ne : ¬ (q = p ∧ k = az_b Z 9 p) := fun z => by rw [z.1] at hk; omega
    rw [z_t_t, if_neg (fun z => ne z.2)]
    refine ht.sl (fun z => ne ?_) (a2 k hk)
    have e : q = p := by omega
    subst e
    exact ⟨rfl, by omega⟩
  · rw [z_t_t, if_neg (fun z => by omega)]; exact ht.sl (by omega) (a3 hd))
theorem mR.up9 (h : mR b Z M) {p : Nat} (hp : p < az_a Z 0) (hsl : sl M (480 + 40 * p + az_b Z 9 p) (az_t Z 2 p (az_b Z 9 p))) : mR b (zs_b Z 9 p (az_b Z 9 p + 1)) (mx M 11 p (nI (az_b Z 9 p + 1))) := by
  obtain ⟨g1, g2, g3, g4, g5, g6, g7, g8, g9, g10, g11, g12⟩ := h
  refine ⟨?_, ?_, ?_, ?_, ?_, ?_, ?_, ?_, ?_, ?_, ?_, ?_⟩
  · intro q hq s2 i2 hs2
    rw [mx_1, z_b_b]
    by_cases e : s2 = 11 ∧ q = p
    · rw [if_pos e]
      rw [e.1] at hs2
      cases hs2
      rw [if_pos ⟨rfl, e.2⟩]
    · rw [if_neg e, if_neg (fun z => e ⟨tmB_inj (by rw [← z.1]; exact hs2) rfl, z.2⟩)]
      exact g1 q hq s2 i2 hs2
  · exact fun f i hf => by rw [mx_2]; exact g2 f i hf
  · exact fun q hq => by rw [mx_o (by decide), z_b_bne (by decide)]; exact g3 q hq
  · exact fun q hq => by rw [mx_o (by decide)]; exact g4 q hq
  · exact fun q hq => rQ_cg (g5 q hq) (mx_o (by decide)) (mx_o (by decide)) (mx_o (by decide)) (mx_o (by decide)) (z_b_bne (by decide)) (z_b_bne (by decide)) (z_b_bne (by decide)) rfl
  · exact fun q hq => rK_cg (g6 q hq) (fun i => mx_o (by decide)) (fun i => mx_o (by decide)) (fun i => mx_o (by decide)) (z_b_bne (by decide)) (z_b_bne (by decide)) rfl
  · exact fun q r hq hr => by rw [mx_o (by decide)]; exact g7 q r hq hr
  · exact ⟨by rw [mx_2]; exact g8.1, fun i t hi => by rw [mx_o (by decide), mx_o (by decide), mx_o (by decide)]; exact g8.2 i t hi⟩
  · exact ⟨fun k hk => by rw [mx_o (by decide), mx_o (by decide), mx_o (by decide), mx_o (by decide)]; exact g9.1 k hk, fun i hi hi2 => by rw [mx_o (by decide)]; exact g9.2 i hi hi2⟩
  · exact ⟨by rw [mx_2]; exact g10.1, g10.2.1, fun i hi => by rw [mx_o (by decide)]; exact g10.2.2 i hi⟩
  · intro q hq
    refine ⟨fun j hj => ((g11 q hq).1 j hj).cg (fun k => mx_o (by decide)) (fun k => mx_o (by decide)), fun k hk => ?_, fun hd => by rw [z_b_bne (by decide)] at hd; exact ((g11 q hq).2.2 hd).cg (fun k => mx_o (by decide)) (fun k => mx_o (by decide))⟩
    by_cases e : q = p ∧ k = az_b Z 9 p
    · rw [e.1, e.2]; exact hsl.cg (fun k => mx_o (by decide)) (fun k => mx_o (by decide))
    · refine ((g11 q hq).2.1 k ?_).cg (fun k => mx_o (by decide)) (fun k => mx_o (by decide))
      rw [z_b_b] at hk
      split at hk
      · rename_i z; rw [z.2] at e ⊢; omega
      · exact hk
  · exact fun q hq hq2 s2 hs2 => by rw [mx_k (fun z => by rw [z] at hq; exact absurd hp (Nat.not_lt.mpr hq))]; exact g12 q hq hq2 s2 hs2
theorem mR.push7 (h : mR b Z M) {p v : Nat} (hp : p < az_a Z 0) (h16 : az_b Z 7 p < 16) (h7 : ∀ q, q < az_a Z 0 → az_b Z 7 q ≤ 16) : mR b (zs_b (zs_c Z 0 p (az_b Z 7 p) v) 7 p (az_b Z 7 p + 1)) (mx (mx M 13 (16 * p + az_b Z 7 p) (nI v)) 14 p (nI (az_b Z 7 p + 1))) := by
  obtain ⟨g1, g2, g3, g4, g5, g6, g7, g8, g9, g10, g11, g12⟩ := h
  refine ⟨?_, ?_, ?_, ?_, ?_, ?_, ?_, ?_, ?_, ?_, ?_, ?_⟩
  · intro q hq s2 i2 hs2
    have hss := tmB_s hs2
    rw [mx_1, z_b_b]
    by_cases e : s2 = 14 ∧ q = p
    · rw [if_pos e]
      rw [e.1] at hs2
      cases hs2
      rw [if_pos ⟨rfl, e.2⟩]
    · rw [if_neg e, if_neg (fun z => e ⟨tmB_inj (by rw [← z.1]; exact hs2) rfl, z.2⟩), mx_o (by omega)]
      exact g1 q hq s2 i2 hs2
  · exact fun f i hf => by rw [mx_2, mx_2]; exact g2 f i hf
  · exact fun q hq => by rw [mx_o (by decide), mx_o (by decide), z_b_bne (by decide)]; exact g3 q hq
  · exact fun q hq => by rw [mx_o (by decide), mx_o (by decide)]; exact g4 q hq
  · exact fun q hq => rQ_cg (g5 q hq) (by rw [mx_o (by decide), mx_o (by decide)]) (by rw [mx_o (by decide), mx_o (by decide)]) (by rw [mx_o (by decide), mx_o (by decide)]) (by rw [mx_o (by decide), mx_o (by decide)]) (by rw [z_b_bne (by decide)]; rfl) (by rw [z_b_bne (by decide)]; rfl) (by rw [z_b_bne (by decide)]; rfl) rfl
  · intro q hq
    refine ⟨fun i hi => ?_, fun i hi => ?_⟩
    · rw [mx_o (by decide), mx_1, z_c_b, z_c_c]
      have := h7 q hq
      by_cases e : q = p ∧ i = az_b Z 7 p
      · rw [if_pos ⟨rfl, by rw [e.1, e.2]⟩, if_pos ⟨rfl, e.1, e.2⟩]
      · have hi2 : i < az_b Z 7 q := by
          rw [z_b_b] at hi
          split at hi
          · rename_i z; rw [z.2] at e ⊢; omega
          · exact hi
        rw [if_neg (fun z => e (by have e1 : q = p := by omega
                                   subst e1
                                   exact ⟨rfl, by omega⟩)), if_neg (fun z => e z.2)]
        exact (g6 q hq).1 i hi2
    · rw [mx_o (by decide), mx_o (by decide), mx_o (by decide), mx_o (by decide), z_c_b, z_c_b, z_c_c, if_neg (fun z => by omega), z_c_c, if_neg (fun z => by omega)]
      rw [z_b_bne (by decide)] at hi
      exact (g6 q hq).2 i hi
  · exact fun q r hq hr => by rw [mx_o (by decide), mx_o (by decide)]; exact g7 q r hq hr
  · exact ⟨by rw [mx_2, mx_2]; exact g8.1, fun i t hi => by rw [mx_o (by decide), mx_o (by decide)]; rw [mx_o (by decide), mx_o (by decide)]; rw [mx_o (by decide), mx_o (by decide)]; exact g8.2 i t hi⟩
  · exact ⟨fun k hk => by rw [mx_o (by decide), mx_o (by decide)]; rw [mx_o (by decide), mx_o (by decide)]; rw [mx_o (by decide), mx_o (by decide)]; rw [mx_o (by decide), mx_o (by decide)]; exact g9.1 k hk, fun i hi hi2 => by rw [mx_o (by decide), mx_o (by decide)]; exact g9.2 i hi hi2⟩
  · exact ⟨by rw [mx_2, mx_2]; exact g10.1, g10.2.1, fun i hi => by rw [mx_o (by decide), mx_o (by decide), z_c_b, z_c_c, if_neg (fun z => by omega)]; exact g10.2.2 i hi⟩
  · exact fun q hq => ⟨fun j hj => ((g11 q hq).1 j hj).cg (fun k => by rw [mx_o (by decide), mx_o (by decide)]) (fun k => by rw [mx_o (by decide), mx_o (by decide)]), fun k hk => by rw [z_b_bne (by decide)] at hk; exact ((g11 q hq).2.1 k hk).cg (fun k => by rw [mx_o (by decide), mx_o (by decide)]) (fun k => by rw [mx_o (by decide), mx_o (by decide)]), fun hd => by rw [z_b_bne (by decide)] at hd; exact ((g11 q hq).2.2 hd).cg (fun k => by rw [mx_o (by decide), mx_o (by decide)]) (fun k => by rw [mx_o (by decide), mx_o (by decide)])⟩
  · exact fun q hq hq2 s hs => by rw [mx_k (fun z => by rw [z] at hq; exact absurd hp (Nat.not_lt.mpr hq)), mx_o (by omega)]; exact g12 q hq hq2 s hs
theorem mR.push8 (h : mR b Z M) {p v : Nat} (hp : p < az_a Z 0) (h8 : az_b Z 8 p < 8) (h7 : ∀ q, q < az_a Z 0 → az_b Z 8 q ≤ 8) : mR b (zs_b (zs_c (zs_c Z 1 p (az_b Z 8 p) v) 2 p (az_b Z 8 p) (az_b Z 7 p)) 8 p (az_b Z 8 p + 1)) (mx (mx (mx M 15 (8 * p + az_b Z 8 p) (nI v)) 16 (8 * p + az_b Z 8 p) (nI (az_b Z 7 p))) 17 p (nI (az_b Z 8 p + 1))) := by
  obtain ⟨g1, g2, g3, g4, g5, g6, g7, g8, g9, g10, g11, g12⟩ := h
  refine ⟨?_, ?_, ?_, ?_, ?_, ?_, ?_, ?_, ?_, ?_, ?_, ?_⟩
  · intro q hq s2 i2 hs2
    have hss := tmB_s hs2
    rw [mx_1, z_b_b]
    by_cases e : s2 = 17 ∧ q = p
    · rw [if_pos e]
      rw [e.1] at hs2
      cases hs2
      rw [if_pos ⟨rfl, e.2⟩]
    · rw [if_neg e, if_neg (fun z => e ⟨tmB_inj (by rw [← z.1]; exact hs2) rfl, z.2⟩), mx_o (by omega), mx_o (by omega)]
      exact g1 q hq s2 i2 hs2
  · exact fun f i hf => by rw [mx_2, mx_2, mx_2]; exact g2 f i hf
  · exact fun q hq => by rw [mx_o (by decide), mx_o (by decide), mx_o (by decide), z_b_bne (by decide)]; exact g3 q hq
  · exact fun q hq => by rw [mx_o (by decide), mx_o (by decide), mx_o (by decide)]; exact g4 q hq
  · exact fun q hq => rQ_cg (g5 q hq) (by rw [mx_o (by decide), mx_o (by decide), mx_o (by decide)]) (by rw [mx_o (by decide), mx_o (by decide), mx_o (by decide)]) (by rw [mx_o (by decide), mx_o (by decide), mx_o (by decide)]) (by rw [mx_o (by decide), mx_o (by decide), mx_o (by decide)]) (by rw [z_b_bne (by decide)]; rfl) (by rw [z_b_bne (by decide)]; rfl) (by rw [z_b_bne (by decide)]; rfl) rfl
  · intro q hq
    refine ⟨fun i hi => ?_, fun i hi => ?_⟩
    · rw [mx_o (by decide), mx_o (by decide), mx_o (by decide), z_c_b, z_c_c, if_neg (fun z => by omega), z_c_c, if_neg (fun z => by omega)]
      rw [z_b_bne (by decide)] at hi
      exact (g6 q hq).1 i hi
    · have := h7 q hq
      have hi2 : ¬ (q = p ∧ i = az_b Z 8 p) → i < az_b Z 8 q := fun e => by
        rw [z_b_b] at hi
        split at hi
        · rename_i z; rw [z.2] at e ⊢; omega
        · exact hi
      have ne : ¬ (q = p ∧ i = az_b Z 8 p) → ¬ 8 * q + i = 8 * p + az_b Z 8 p := fun e z => e (by
        have := hi2 e
        have e1 : q = p := by omega
        subst e1
        exact ⟨rfl, by omega⟩)
      refine ⟨?_, ?_⟩
      · rw [mx_o (by decide), mx_o (by decide), z_c_b, z_c_c, if_neg (fun z => by omega), z_c_c, mx_1]
        by_cases e : q = p ∧ i = az_b Z 8 p
        · rw [if_pos ⟨rfl, by rw [e.1, e.2]⟩, if_pos ⟨rfl, e.1, e.2⟩]
        · rw [if_neg (fun z => ne e z.2), if_neg (fun z => e z.2)]
          exact ((g6 q hq).2 i (hi2 e)).1
      · rw [mx_o (by decide), mx_1, z_c_b, z_c_c]
        by_cases e : q = p ∧ i = az_b Z 8 p
        · rw [if_pos ⟨rfl, by rw [e.1, e.2]⟩, if_pos ⟨rfl, e.1, e.2⟩]
        · rw [if_neg (fun z => ne e z.2), if_neg (fun z => e z.2), mx_o (by decide), z_c_c, if_neg (fun z => by omega)]
          exact ((g6 q hq).2 i (hi2 e)).2
  · exact fun q r hq hr => by rw [mx_o (by decide), mx_o (by decide), mx_o (by decide)]; exact g7 q r hq hr
  · exact ⟨by rw [mx_2, mx_2, mx_2]; exact g8.1, fun i t hi => by rw [mx_o (by decide), mx_o (by decide), mx_o (by decide)]; rw [mx_o (by decide), mx_o (by decide), mx_o (by decide)]; rw [mx_o (by decide), mx_o (by decide), mx_o (by decide)]; exact g8.2 i t hi⟩
  · exact ⟨fun k hk => by rw [mx_o (by decide), mx_o (by decide), mx_o (by decide)]; rw [mx_o (by decide), mx_o (by decide), mx_o (by decide)]; rw [mx_o (by decide), mx_o (by decide), mx_o (by decide)]; rw [mx_o (by decide), mx_o (by decide), mx_o (by decide)]; exact g9.1 k hk, fun i hi hi2 => by rw [mx_o (by decide), mx_o (by decide), mx_o (by decide)]; exact g9.2 i hi hi2⟩
  · exact ⟨by rw [mx_2, mx_2, mx_2]; exact g10.1, g10.2.1, fun i hi => by rw [mx_o (by decide), mx_o (by decide), mx_o (by decide), z_c_b, z_c_c, if_neg (fun z => by omega), z_c_c, if_neg (fun z => by omega)]; exact g10.2.2 i hi⟩
  · exact fun q hq => ⟨fun j hj => ((g11 q hq).1 j hj).cg (fun k => by rw [mx_o (by decide), mx_o (by decide), mx_o (by decide)]) (fun k => by rw [mx_o (by decide), mx_o (by decide), mx_o (by decide)]), fun k hk => by rw [z_b_bne (by decide)] at hk; exact ((g11 q hq).2.1 k hk).cg (fun k => by rw [mx_o (by decide), mx_o (by decide), mx_o (by decide)]) (fun k => by rw [mx_o (by decide), mx_o (by decide), mx_o (by decide)]), fun hd => by rw [z_b_bne (by decide)] at hd; exact ((g11 q hq).2.2 hd).cg (fun k => by rw [mx_o (by decide), mx_o (by decide), mx_o (by decide)]) (fun k => by rw [mx_o (by decide), mx_o (by decide), mx_o (by decide)])⟩
  · exact fun q hq hq2 s hs => by rw [mx_k (fun z => by rw [z] at hq; exact absurd hp (Nat.not_lt.mpr hq)), mx_o (by omega), mx_o (by omega)]; exact g12 q hq hq2 s hs
theorem mR.link (h : mR b Z M) {p q : Nat} {v : Bool} {x : Int32} (hp : p < 60) (hq : q < 60) (hx : x = if v = true then 1 else 0) : mR b (zLink Z p q v) (mx (mx M 24 (60 * p + q) x) 24 (60 * q + p) x) := by
  obtain ⟨g1, g2, g3, g4, g5, g6, g7, g8, g9, g10, g11, g12⟩ := h
  refine ⟨?_, ?_, ?_, ?_, ?_, ?_, ?_, ?_, ?_, ?_, ?_, ?_⟩
  · exact fun q hq s i hs => by rw [mx_o (fun z => by rw [z] at hs; cases hs), mx_o (fun z => by rw [z] at hs; cases hs)]; exact g1 q hq s i hs
  · exact fun f i hf => by rw [mx_2, mx_2]; exact g2 f i hf
  · exact fun q hq => by rw [mx_o (by decide), mx_o (by decide)]; exact g3 q hq
  · exact fun q hq => by rw [mx_o (by decide), mx_o (by decide)]; exact g4 q hq
  · exact fun q hq => rQ_cg (g5 q hq) (by rw [mx_o (by decide), mx_o (by decide)]) (by rw [mx_o (by decide), mx_o (by decide)]) (by rw [mx_o (by decide), mx_o (by decide)]) (by rw [mx_o (by decide), mx_o (by decide)]) rfl rfl rfl rfl
  · exact fun q hq => rK_cg (g6 q hq) (fun i => by rw [mx_o (by decide), mx_o (by decide)]) (fun i => by rw [mx_o (by decide), mx_o (by decide)]) (fun i => by rw [mx_o (by decide), mx_o (by decide)]) rfl rfl rfl
  · intro a c ha hc
    unfold zLink
    rw [mx_1, mx_1, z_f_f, z_f_f]
    by_cases e1 : a = q ∧ c = p
    · rw [if_pos ⟨rfl, by rw [e1.1, e1.2]⟩, if_pos e1, hx]
    · rw [if_neg (fun z => e1 (by omega)), if_neg e1]
      by_cases e2 : a = p ∧ c = q
      · rw [if_pos ⟨rfl, by rw [e2.1, e2.2]⟩, if_pos e2, hx]
      · rw [if_neg (fun z => e2 (by omega)), if_neg e2]; exact g7 a c ha hc
  · exact ⟨by rw [mx_2, mx_2]; exact g8.1, fun i t hi => by rw [mx_o (by decide), mx_o (by decide)]; rw [mx_o (by decide), mx_o (by decide)]; rw [mx_o (by decide), mx_o (by decide)]; exact g8.2 i t hi⟩
  · exact ⟨fun k hk => by rw [mx_o (by decide), mx_o (by decide)]; rw [mx_o (by decide), mx_o (by decide)]; rw [mx_o (by decide), mx_o (by decide)]; rw [mx_o (by decide), mx_o (by decide)]; exact g9.1 k hk, fun i hi hi2 => by rw [mx_o (by decide), mx_o (by decide)]; exact g9.2 i hi hi2⟩
  · exact ⟨by rw [mx_2, mx_2]; exact g10.1, g10.2.1, fun i hi => by rw [mx_o (by decide), mx_o (by decide)]; exact g10.2.2 i hi⟩
  · exact fun q hq => ⟨fun j hj => ((g11 q hq).1 j hj).cg (fun k => by rw [mx_o (by decide), mx_o (by decide)]) (fun k => by rw [mx_o (by decide), mx_o (by decide)]), fun k hk => by exact ((g11 q hq).2.1 k hk).cg (fun k => by rw [mx_o (by decide), mx_o (by decide)]) (fun k => by rw [mx_o (by decide), mx_o (by decide)]), fun hd => by exact ((g11 q hq).2.2 hd).cg (fun k => by rw [mx_o (by decide), mx_o (by decide)]) (fun k => by rw [mx_o (by decide), mx_o (by decide)])⟩
  · exact fun q hq hq2 s hs => by rw [mx_o (by omega), mx_o (by omega)]; exact g12 q hq hq2 s hs
theorem mR.nm (h : mR b Z M) {p : Nat} {r : Option Nat} (hp : p < az_a Z 0) : mR b (zs_e Z 0 p r) (mx M 9 p (zNm r)) := by
  obtain ⟨g1, g2, g3, g4, g5, g6, g7, g8, g9, g10, g11, g12⟩ := h
  refine ⟨?_, ?_, ?_, ?_, ?_, ?_, ?_, ?_, ?_, ?_, ?_, ?_⟩
  · exact fun q hq s i hs => by rw [mx_o (fun z => by rw [z] at hs; cases hs)]; exact g1 q hq s i hs
  · exact fun f i hf => by rw [mx_2]; exact g2 f i hf
  · exact fun q hq => by rw [mx_o (by decide)]; exact g3 q hq
  · intro q hq
    rw [mx_1, z_e_e]
    by_cases e : q = p
    · rw [if_pos ⟨rfl, e⟩, if_pos ⟨rfl, e⟩]
    · rw [if_neg (fun z => e z.2), if_neg (fun z => e z.2)]; exact g4 q hq
  · exact fun q hq => rQ_cg (g5 q hq) (mx_o (by decide)) (mx_o (by decide)) (mx_o (by decide)) (mx_o (by decide)) rfl rfl rfl (by rw [z_e_e, if_neg (fun z => by omega)])
  · exact fun q hq => rK_cg (g6 q hq) (fun i => by rw [mx_o (by decide)]) (fun i => by rw [mx_o (by decide)]) (fun i => by rw [mx_o (by decide)]) rfl rfl rfl
  · exact fun q r hq hr => by rw [mx_o (by decide)]; exact g7 q r hq hr
  · exact ⟨by rw [mx_2]; exact g8.1, fun i t hi => by rw [mx_o (by decide)]; rw [mx_o (by decide)]; rw [mx_o (by decide)]; exact g8.2 i t hi⟩
  · exact ⟨fun k hk => by rw [mx_o (by decide)]; rw [mx_o (by decide)]; rw [mx_o (by decide)]; rw [mx_o (by decide)]; exact g9.1 k hk, fun i hi hi2 => by rw [mx_o (by decide)]; exact g9.2 i hi hi2⟩
  · exact ⟨by rw [mx_2]; exact g10.1, g10.2.1, fun i hi => by rw [mx_o (by decide)]; exact g10.2.2 i hi⟩
  · exact fun q hq => ⟨fun j hj => ((g11 q hq).1 j hj).cg (fun k => by rw [mx_o (by decide)]) (fun k => by rw [mx_o (by decide)]), fun k hk => by exact ((g11 q hq).2.1 k hk).cg (fun k => by rw [mx_o (by decide)]) (fun k => by rw [mx_o (by decide)]), fun hd => by exact ((g11 q hq).2.2 hd).cg (fun k => by rw [mx_o (by decide)]) (fun k => by rw [mx_o (by decide)])⟩
  · exact fun q hq hq2 s hs => by rw [mx_o (by omega)]; exact g12 q hq hq2 s hs
theorem mR.fal (h : mR b Z M) {p : Nat} : mR b (zs_a (zs_c Z 3 0 (az_a Z 1) p) 1 (az_a Z 1 + 1)) (mi (mx M 32 (az_a Z 1 - b) (nI p)) 33 (nI (az_a Z 1 - b + 1))) := by
  obtain ⟨g1, g2, g3, g4, g5, g6, g7, g8, g9, g10, g11, g12⟩ := h
  refine ⟨?_, ?_, ?_, ?_, ?_, ?_, ?_, ?_, ?_, ?_, ?_, ?_⟩
  · exact fun q hq s i hs => by rw [mi_1, mx_o (fun z => by rw [z] at hs; cases hs)]; exact g1 q hq s i hs
  · intro f i hf
    rw [mi_2, if_neg (fun z => by rw [z] at hf; cases hf), mx_2, z_a_a, if_neg (fun z => by rw [z] at hf; unfold tmA at hf; split at hf <;> cases hf)]
    exact g2 f i hf
  · exact fun q hq => by rw [mi_1, mx_o (by decide)]; exact g3 q hq
  · exact fun q hq => by rw [mi_1, mx_o (by decide)]; exact g4 q hq
  · exact fun q hq => rQ_cg (g5 q hq) (by rw [mi_1, mx_o (by decide)]) (by rw [mi_1, mx_o (by decide)]) (by rw [mi_1, mx_o (by decide)]) (by rw [mi_1, mx_o (by decide)]) rfl rfl rfl rfl
  · exact fun q hq => ⟨fun i hi => by rw [mi_1, mx_o (by decide), z_c_a, z_c_c, if_neg (fun z => by omega)]; exact (g6 q hq).1 i hi, fun i hi => by rw [mi_1, mi_1, mx_o (by decide), mx_o (by decide), z_c_a, z_c_a, z_c_c, z_c_c, if_neg (fun z => by omega), if_neg (fun z => by omega)]; exact (g6 q hq).2 i hi⟩
  · exact fun q r hq hr => by rw [mi_1, mx_o (by decide)]; exact g7 q r hq hr
  · exact ⟨by rw [mi_2, if_neg (by decide), mx_2]; exact g8.1, fun i t hi => by rw [mi_1, mx_o (by decide)]; rw [mi_1, mx_o (by decide)]; rw [mi_1, mx_o (by decide)]; exact g8.2 i t hi⟩
  · exact ⟨fun k hk => by rw [mi_1, mx_o (by decide)]; rw [mi_1, mx_o (by decide)]; rw [mi_1, mx_o (by decide)]; rw [mi_1, mx_o (by decide)]; exact g9.1 k hk, fun i hi hi2 => by rw [mi_1, mx_o (by decide)]; exact g9.2 i hi hi2⟩
  · refine ⟨?_, ?_, fun i hi => ?_⟩
    · rw [mi_2, if_pos rfl, z_a_a, if_pos rfl]
      have := g10.2.1
      rw [show az_a Z 1 + 1 - b = az_a Z 1 - b + 1 from by omega]
    · rw [z_a_a, if_pos rfl]
      have := g10.2.1
      omega
    · rw [z_a_a, if_pos rfl] at hi
      have := g10.2.1
      rw [mi_1, mx_1, z_c_a, z_c_c]
      by_cases e : i = az_a Z 1 - b
      · rw [if_pos ⟨rfl, e⟩, if_pos ⟨rfl, rfl, by omega⟩]
      · rw [if_neg (fun z => e z.2), if_neg (fun z => by omega)]; exact g10.2.2 i (by omega)
  · exact fun q hq => ⟨fun j hj => ((g11 q hq).1 j hj).cg (fun k => by rw [mi_1, mx_o (by decide)]) (fun k => by rw [mi_1, mx_o (by decide)]), fun k hk => by exact ((g11 q hq).2.1 k hk).cg (fun k => by rw [mi_1, mx_o (by decide)]) (fun k => by rw [mi_1, mx_o (by decide)]), fun hd => by exact ((g11 q hq).2.2 hd).cg (fun k => by rw [mi_1, mx_o (by decide)]) (fun k => by rw [mi_1, mx_o (by decide)])⟩
  · exact fun q hq hq2 s hs => by rw [mi_1, mx_o (by omega)]; exact g12 q hq hq2 s hs
theorem mR.base (h : mR b Z M)  : mR (az_a Z 1) Z (mi M 33 0) := by
  obtain ⟨g1, g2, g3, g4, g5, g6, g7, g8, g9, g10, g11, g12⟩ := h
  refine ⟨?_, ?_, ?_, ?_, ?_, ?_, ?_, ?_, ?_, ?_, ?_, ?_⟩
  · exact fun q hq s i hs => by rw [mi_1]; exact g1 q hq s i hs
  · exact fun f i hf => by rw [mi_2, if_neg (fun z => by rw [z] at hf; cases hf)]; exact g2 f i hf
  · exact fun q hq => by rw [mi_1]; exact g3 q hq
  · exact fun q hq => by rw [mi_1]; exact g4 q hq
  · exact fun q hq => rQ_cg (g5 q hq) (by rw [mi_1]) (by rw [mi_1]) (by rw [mi_1]) (by rw [mi_1]) rfl rfl rfl rfl
  · exact fun q hq => rK_cg (g6 q hq) (fun i => by rw [mi_1]) (fun i => by rw [mi_1]) (fun i => by rw [mi_1]) rfl rfl rfl
  · exact fun q r hq hr => by rw [mi_1]; exact g7 q r hq hr
  · exact ⟨by rw [mi_2, if_neg (by decide)]; exact g8.1, fun i t hi => by rw [mi_1]; rw [mi_1]; rw [mi_1]; exact g8.2 i t hi⟩
  · exact ⟨fun k hk => by rw [mi_1]; rw [mi_1]; rw [mi_1]; rw [mi_1]; exact g9.1 k hk, fun i hi hi2 => by rw [mi_1]; exact g9.2 i hi hi2⟩
  · exact ⟨by rw [mi_2, if_pos rfl, Nat.sub_self]; rfl, Nat.le_refl _, fun i hi => absurd hi (by omega)⟩
  · exact fun q hq => ⟨fun j hj => ((g11 q hq).1 j hj).cg (fun k => by rw [mi_1]) (fun k => by rw [mi_1]), fun k hk => by exact ((g11 q hq).2.1 k hk).cg (fun k => by rw [mi_1]) (fun k => by rw [mi_1]), fun hd => by exact ((g11 q hq).2.2 hd).cg (fun k => by rw [mi_1]) (fun k => by rw [mi_1])⟩
  · exact fun q hq hq2 s hs => by rw [mi_1]; exact g12 q hq hq2 s hs
theorem mR.wrd (h : mR b Z M) {k : Nat} {n a c d : Int32} : mR b (zPut Z k n a c d) (mx (mx (mx (mx M 2 k n) 3 k a) 4 k c) 5 k d) := by
  obtain ⟨g1, g2, g3, g4, g5, g6, g7, g8, g9, g10, g11, g12⟩ := h
  refine ⟨?_, ?_, ?_, ?_, ?_, ?_, ?_, ?_, ?_, ?_, ?_, ?_⟩
  · exact fun q hq s i hs => by rw [mx_o (fun z => by rw [z] at hs; cases hs), mx_o (fun z => by rw [z] at hs; cases hs), mx_o (fun z => by rw [z] at hs; cases hs), mx_o (fun z => by rw [z] at hs; cases hs)]; exact g1 q hq s i hs
  · exact fun f i hf => by rw [mx_2, mx_2, mx_2, mx_2]; exact g2 f i hf
  · exact fun q hq => by rw [mx_o (by decide), mx_o (by decide), mx_o (by decide), mx_o (by decide)]; exact g3 q hq
  · exact fun q hq => by rw [mx_o (by decide), mx_o (by decide), mx_o (by decide), mx_o (by decide)]; exact g4 q hq
  · exact fun q hq => rQ_cg (g5 q hq) (by rw [mx_o (by decide), mx_o (by decide), mx_o (by decide), mx_o (by decide)]) (by rw [mx_o (by decide), mx_o (by decide), mx_o (by decide), mx_o (by decide)]) (by rw [mx_o (by decide), mx_o (by decide), mx_o (by decide), mx_o (by decide)]) (by rw [mx_o (by decide), mx_o (by decide), mx_o (by decide), mx_o (by decide)]) rfl rfl rfl rfl
  · exact fun q hq => rK_cg (g6 q hq) (fun i => by rw [mx_o (by decide), mx_o (by decide), mx_o (by decide), mx_o (by decide)]) (fun i => by rw [mx_o (by decide), mx_o (by decide), mx_o (by decide), mx_o (by decide)]) (fun i => by rw [mx_o (by decide), mx_o (by decide), mx_o (by decide), mx_o (by decide)]) rfl rfl rfl
  · exact fun q r hq hr => by rw [mx_o (by decide), mx_o (by decide), mx_o (by decide), mx_o (by decide)]; exact g7 q r hq hr
  · exact ⟨by rw [mx_2, mx_2, mx_2, mx_2]; exact g8.1, fun i t hi => by rw [mx_o (by decide), mx_o (by decide), mx_o (by decide), mx_o (by decide)]; rw [mx_o (by decide), mx_o (by decide), mx_o (by decide), mx_o (by decide)]; rw [mx_o (by decide), mx_o (by decide), mx_o (by decide), mx_o (by decide)]; exact g8.2 i t hi⟩
  · refine ⟨fun j hj => ⟨?_, ?_, ?_, ?_⟩, fun i hi hi2 => ?_⟩
    · rw [mx_o (by decide), mx_o (by decide), mx_o (by decide), mx_1]
      unfold zPut
      rw [z_x_x, z_x_x, z_x_x, z_x_x]
      by_cases e : j = k
      · rw [if_pos ⟨rfl, e⟩, if_neg (by omega), if_neg (by omega), if_neg (by omega), if_pos ⟨rfl, by omega⟩]
      · rw [if_neg (fun z => e z.2), if_neg (by omega), if_neg (by omega), if_neg (by omega), if_neg (by omega)]
        exact (g9.1 j hj).1
    · rw [mx_o (by decide), mx_o (by decide), mx_1]
      unfold zPut
      rw [z_x_x, z_x_x, z_x_x, z_x_x]
      by_cases e : j = k
      · rw [if_pos ⟨rfl, e⟩, if_neg (by omega), if_neg (by omega), if_pos ⟨rfl, by omega⟩]
      · rw [if_neg (fun z => e z.2), mx_o (by decide), if_neg (by omega), if_neg (by omega), if_neg (by omega), if_neg (by omega)]
        exact (g9.1 j hj).2.1
    · rw [mx_o (by decide), mx_1]
      unfold zPut
      rw [z_x_x, z_x_x, z_x_x, z_x_x]
      by_cases e : j = k
      · rw [if_pos ⟨rfl, e⟩, if_neg (by omega), if_pos ⟨rfl, by omega⟩]
      · rw [if_neg (fun z => e z.2), mx_o (by decide), mx_o (by decide), if_neg (by omega), if_neg (by omega), if_neg (by omega), if_neg (by omega)]
        exact (g9.1 j hj).2.2.1
    · rw [mx_1]
      unfold zPut
      rw [z_x_x, z_x_x, z_x_x, z_x_x]
      by_cases e : j = k
      · rw [if_pos ⟨rfl, e⟩, if_pos ⟨rfl, by omega⟩]
      · rw [if_neg (fun z => e z.2), mx_o (by decide), mx_o (by decide), mx_o (by decide), if_neg (by omega), if_neg (by omega), if_neg (by omega), if_neg (by omega)]
        exact (g9.1 j hj).2.2.2
    · rw [mx_o (by decide), mx_o (by decide), mx_o (by decide), mx_o (by decide)]
      unfold zPut
      rw [z_x_x, z_x_x, z_x_x, z_x_x, if_neg (by omega), if_neg (by omega), if_neg (by omega), if_neg (by omega)]
      exact g9.2 i hi hi2
  · exact ⟨by rw [mx_2, mx_2, mx_2, mx_2]; exact g10.1, g10.2.1, fun i hi => by rw [mx_o (by decide), mx_o (by decide), mx_o (by decide), mx_o (by decide)]; exact g10.2.2 i hi⟩
  · exact fun q hq => ⟨fun j hj => ((g11 q hq).1 j hj).cg (fun k => by rw [mx_o (by decide), mx_o (by decide), mx_o (by decide), mx_o (by decide)]) (fun k => by rw [mx_o (by decide), mx_o (by decide), mx_o (by decide), mx_o (by decide)]), fun k hk => by exact ((g11 q hq).2.1 k hk).cg (fun k => by rw [mx_o (by decide), mx_o (by decide), mx_o (by decide), mx_o (by decide)]) (fun k => by rw [mx_o (by decide), mx_o (by decide), mx_o (by decide), mx_o (by decide)]), fun hd => by exact ((g11 q hq).2.2 hd).cg (fun k => by rw [mx_o (by decide), mx_o (by decide), mx_o (by decide), mx_o (by decide)]) (fun k => by rw [mx_o (by decide), mx_o (by decide), mx_o (by decide), mx_o (by decide)])⟩
  · exact fun q hq hq2 s hs => by rw [mx_o (by omega), mx_o (by omega), mx_o (by omega), mx_o (by omega)]; exact g12 q hq hq2 s hs
theorem mR.rdy (h : mR b Z M) {p : Nat} (hp : p < az_a Z 0) : mR b (zs_e (zs_b Z 1 p 0) 1 p none) (mx (mx M 22 p 0) 6 p 0) := by
  obtain ⟨g1, g2, g3, g4, g5, g6, g7, g8, g9, g10, g11, g12⟩ := h
  refine ⟨?_, ?_, ?_, ?_, ?_, ?_, ?_, ?_, ?_, ?_, ?_, ?_⟩
  · intro q hq s2 i2 hs2
    have hss := tmB_s hs2
    rw [mx_1, z_b_e, z_b_b]
    by_cases e : s2 = 6 ∧ q = p
    · rw [if_pos e]
      rw [e.1] at hs2
      cases hs2
      rw [if_pos ⟨rfl, e.2⟩]; rfl
    · rw [if_neg e, if_neg (fun z => e ⟨tmB_inj (by rw [← z.1]; exact hs2) rfl, z.2⟩), mx_o (by omega)]
      exact g1 q hq s2 i2 hs2
  · exact fun f i hf => by rw [mx_2, mx_2]; exact g2 f i hf
  · exact fun q hq => by rw [mx_o (by decide), mx_o (by decide), z_b_e, z_b_bne (by decide)]; exact g3 q hq
  · exact fun q hq => by rw [mx_o (by decide), mx_o (by decide), z_e_e, if_neg (fun z => by omega)]; exact g4 q hq
  · intro q hq
    by_cases e : q = p
    · subst e
      refine ⟨fun _ => by rw [mx_o (by decide)]; exact mx_s, fun z => ?_⟩
      rw [z_b_e, z_b_b, if_pos ⟨rfl, rfl⟩] at z
      cases z
    · exact rQ_cg (g5 q hq) (by rw [mx_o (by decide), mx_k e]) (by rw [mx_o (by decide), mx_o (by decide)]) (by rw [mx_o (by decide), mx_o (by decide)]) (by rw [mx_o (by decide), mx_o (by decide)]) (by rw [z_b_e, z_b_b, if_neg (fun z => e z.2)]) (by rw [z_b_e, z_b_bne (by decide)]) (by rw [z_b_e, z_b_bne (by decide)]) (by rw [z_e_e, if_neg (fun z => e z.2)]; rfl)
  · exact fun q hq => rK_cg (g6 q hq) (fun i => by rw [mx_o (by decide), mx_o (by decide)]) (fun i => by rw [mx_o (by decide), mx_o (by decide)]) (fun i => by rw [mx_o (by decide), mx_o (by decide)]) (by rw [z_b_e, z_b_bne (by decide)]) (by rw [z_b_e, z_b_bne (by decide)]) rfl
  · exact fun q r hq hr => by rw [mx_o (by decide), mx_o (by decide)]; exact g7 q r hq hr
  · exact ⟨by rw [mx_2, mx_2]; exact g8.1, fun i t hi => by rw [mx_o (by decide), mx_o (by decide)]; rw [mx_o (by decide), mx_o (by decide)]; rw [mx_o (by decide), mx_o (by decide)]; exact g8.2 i t hi⟩
  · exact ⟨fun k hk => by rw [mx_o (by decide), mx_o (by decide)]; rw [mx_o (by decide), mx_o (by decide)]; rw [mx_o (by decide), mx_o (by decide)]; rw [mx_o (by decide), mx_o (by decide)]; exact g9.1 k hk, fun i hi hi2 => by rw [mx_o (by decide), mx_o (by decide)]; exact g9.2 i hi hi2⟩
  · exact ⟨by rw [mx_2, mx_2]; exact g10.1, g10.2.1, fun i hi => by rw [mx_o (by decide), mx_o (by decide)]; exact g10.2.2 i hi⟩
  · intro q hq
    obtain ⟨a1, a2, a3⟩ := g11 q hq
    refine ⟨fun j hj => (a1 j hj).cg (fun k => by rw [mx_o (by decide), mx_o (by decide)]) (fun k => by rw [mx_o (by decide), mx_o (by decide)]), fun k hk => ?_, fun hd => ?_⟩
    · rw [z_b_e, z_b_bne (by decide)] at hk
      exact (a2 k hk).cg (fun k => by rw [mx_o (by decide), mx_o (by decide)]) (fun k => by rw [mx_o (by decide), mx_o (by decide)])
    · rw [z_b_e, z_b_b] at hd
      split at hd
      · cases hd
      · exact (a3 hd).cg (fun k => by rw [mx_o (by decide), mx_o (by decide)]) (fun k => by rw [mx_o (by decide), mx_o (by decide)])
  · exact fun q hq hq2 s hs => by rw [mx_o (by omega), mx_k (fun z => by rw [z] at hq; exact absurd hp (Nat.not_lt.mpr hq))]; exact g12 q hq hq2 s hs
theorem mR.ded (h : mR b Z M) {p : Nat} (hp : p < az_a Z 0) (hsl : sl M (2880 + p) (az_t Z 1 p 0)) : mR b (zs_b Z 1 p 2) (mx (mx M 6 p 2) 22 p 0) := by
  obtain ⟨g1, g2, g3, g4, g5, g6, g7, g8, g9, g10, g11, g12⟩ := h
  refine ⟨?_, ?_, ?_, ?_, ?_, ?_, ?_, ?_, ?_, ?_, ?_, ?_⟩
  · intro q hq s2 i2 hs2
    have hss := tmB_s hs2
    rw [mx_o (by omega), mx_1, z_b_b]
    by_cases e : s2 = 6 ∧ q = p
    · rw [if_pos e]
      rw [e.1] at hs2
      cases hs2
      rw [if_pos ⟨rfl, e.2⟩]; rfl
    · rw [if_neg e, if_neg (fun z => e ⟨tmB_inj (by rw [← z.1]; exact hs2) rfl, z.2⟩)]
      exact g1 q hq s2 i2 hs2
  · exact fun f i hf => by rw [mx_2, mx_2]; exact g2 f i hf
  · exact fun q hq => by rw [mx_o (by decide), mx_o (by decide), z_b_bne (by decide)]; exact g3 q hq
  · exact fun q hq => by rw [mx_o (by decide), mx_o (by decide)]; exact g4 q hq
  · intro q hq
    by_cases e : q = p
    · subst e
      refine ⟨fun _ => mx_s, fun z => ?_⟩
      rw [z_b_b, if_pos ⟨rfl, rfl⟩] at z
      cases z
    · exact rQ_cg (g5 q hq) (by rw [mx_k e, mx_o (by decide)]) (by rw [mx_o (by decide), mx_o (by decide)]) (by rw [mx_o (by decide), mx_o (by decide)]) (by rw [mx_o (by decide), mx_o (by decide)]) (by rw [z_b_b, if_neg (fun z => e z.2)]) (by rw [z_b_bne (by decide)]) (by rw [z_b_bne (by decide)]) rfl
  · exact fun q hq => rK_cg (g6 q hq) (fun i => by rw [mx_o (by decide), mx_o (by decide)]) (fun i => by rw [mx_o (by decide), mx_o (by decide)]) (fun i => by rw [mx_o (by decide), mx_o (by decide)]) (by rw [z_b_bne (by decide)]) (by rw [z_b_bne (by decide)]) rfl
  · exact fun q r hq hr => by rw [mx_o (by decide), mx_o (by decide)]; exact g7 q r hq hr
  · exact ⟨by rw [mx_2, mx_2]; exact g8.1, fun i t hi => by rw [mx_o (by decide), mx_o (by decide)]; rw [mx_o (by decide), mx_o (by decide)]; rw [mx_o (by decide), mx_o (by decide)]; exact g8.2 i t hi⟩
  · exact ⟨fun k hk => by rw [mx_o (by decide), mx_o (by decide)]; rw [mx_o (by decide), mx_o (by decide)]; rw [mx_o (by decide), mx_o (by decide)]; rw [mx_o (by decide), mx_o (by decide)]; exact g9.1 k hk, fun i hi hi2 => by rw [mx_o (by decide), mx_o (by decide)]; exact g9.2 i hi hi2⟩
  · exact ⟨by rw [mx_2, mx_2]; exact g10.1, g10.2.1, fun i hi => by rw [mx_o (by decide), mx_o (by decide)]; exact g10.2.2 i hi⟩
  · intro q hq
    obtain ⟨a1, a2, a3⟩ := g11 q hq
    refine ⟨fun j hj => (a1 j hj).cg (fun k => by rw [mx_o (by decide), mx_o (by decide)]) (fun k => by rw [mx_o (by decide), mx_o (by decide)]), fun k hk => ?_, fun hd => ?_⟩
    · rw [z_b_bne (by decide)] at hk
      exact (a2 k hk).cg (fun k => by rw [mx_o (by decide), mx_o (by decide)]) (fun k => by rw [mx_o (by decide), mx_o (by decide)])
    · rw [z_b_b] at hd
      split at hd
      · rename_i z; rw [z.2]; exact hsl.cg (fun k => by rw [mx_o (by decide), mx_o (by decide)]) (fun k => by rw [mx_o (by decide), mx_o (by decide)])
      · exact (a3 hd).cg (fun k => by rw [mx_o (by decide), mx_o (by decide)]) (fun k => by rw [mx_o (by decide), mx_o (by decide)])
  · exact fun q hq hq2 s hs => by rw [mx_k (fun z => by rw [z] at hq; exact absurd hp (Nat.not_lt.mpr hq)), mx_o (by omega)]; exact g12 q hq hq2 s hs
end MRM
