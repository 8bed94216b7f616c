/-! one write (3): messages -/
theorem az_ext {Z W : az} (h1 : az_a Z = az_a W) (h2 : az_b Z = az_b W) (h3 : az_c Z = az_c W) (h4 : az_e Z = az_e W) (h5 : az_f Z = az_f W) (h6 : az_t Z = az_t W) (h7 : az_x Z = az_x W) (h8 : az_w Z = az_w W) : Z = W := by
  obtain ⟨a, b, c, e, f, t, x, w⟩ := Z
  obtain ⟨a', b', c', e', f', t', x', w'⟩ := W
  cases h1; cases h2; cases h3; cases h4; cases h5; cases h6; cases h7; cases h8
  rfl
section CRM
variable {Z : az} {S S' E : pm_S} {Y : pm_Y}
/-- a place behind the messages holds what it holds -/
theorem pm_CR.tz {p k : Nat} {w : List Int32} (h : pm_CR Z S Y E) (hk : az_b Z 9 p ≤ k) : pm_CR (zs_t Z 2 p k w) S Y E := by
  obtain ⟨g1, g2, g3, g4, g5, g6, g7, g8, g9, g10, g11, g12, g13, g14, g15⟩ := h
  refine ⟨g1, g2, g3, g4, g5, g6, g7, g8, g9, g10, g11, g12, fun q hq => ?_, fun q hq => ?_, g15⟩
  · obtain ⟨a, b⟩ := g13 q hq
    exact ⟨fun j hj => by rw [z_t_t, if_neg (fun z => by omega)]; exact a j hj, by rw [z_t_t, if_neg (fun z => by omega)]; exact b⟩
  · obtain ⟨m1, m2, m3, m4, m5, m6⟩ := g14 q hq
    refine ⟨m1, m2, m3, m4, m5, fun i hi => ?_⟩
    have hi' : i < az_b Z 9 q := hi
    rw [z_t_t, if_neg (fun z => by obtain ⟨-, z1, z2⟩ := z; subst z1; omega)]
    exact m6 i hi'
/-- a message is written -/
theorem pm_CR.ml {p k : Nat} {w : List Int32} (h : pm_CR Z S Y E) (hn : az_a Z 0 ≤ 60) (hp : p < az_a Z 0) (hk : k < Y.2.1 p) (hf : pm_ft S S' (Y.1 (pq p (30 + Y.2.2 p k))) (Y.1 (pq p (80 + Y.2.2 p k)))) (ht : pm_tm S' (Y.1 (pq p (30 + Y.2.2 p k))) (Y.1 (pq p (80 + Y.2.2 p k))) w) : pm_CR (zs_t Z 2 p k w) S' Y E := by
  have hM := h.2.2.2.2.2.2.2.2.2.2.2.2.2.1
  obtain ⟨p1, p2, p3, p4, p5, p6⟩ := hM p hp
  have hpk := (p4 k hk).1
  have l1 : lv (az_a Z 0) Y.2.1 (pq p (30 + Y.2.2 p k)) := lv_m hp hpk p2
  have l2 : lv (az_a Z 0) Y.2.1 (pq p (80 + Y.2.2 p k)) := lv_n hp hpk p2
  have h3 : rwc (pq p (80 + Y.2.2 p k)) := Or.inr (Or.inr ⟨p, 80 + Y.2.2 p k, rfl, by omega, Or.inr (by omega)⟩)
  have h0 := h.ft0 l1 l2 (pq_lt hp hn (by omega)) h3 (pq_lt hp hn (by omega)) hf
  obtain ⟨n0, n1, n2, n3, n4, n5, n6, n7, n8, n9, n10, np⟩ := rwc_no h3
  refine pm_CR0.mk (Z := zs_t Z 2 p k w) h0 (fun q hq => ⟨fun i hi => ?_, ?_⟩) (fun q hq => ?_)
  · rw [z_t_t, if_neg (fun z => by omega)]
    refine ((h.2.2.2.2.2.2.2.2.2.2.2.2.1 q hq).1 i hi).ft hf (fun z => ?_) (fun z => ?_)
    · exact pq_ne (by omega) (by omega) (by omega) (h.1 _ _ (lv_p hq (by omega)) l1 z)
    · exact pq_ne (by omega) (by omega) (by omega) (h.1 _ _ (lv_r hq hi) l2 z)
  · rw [z_t_t, if_neg (fun z => by omega)]
    refine (h.2.2.2.2.2.2.2.2.2.2.2.2.1 q hq).2.ft hf (fun z => ?_) (fun z => ?_)
    · exact pq_ne (by omega) (by omega) (by omega) (h.1 _ _ (lv_p hq (by omega)) l1 z)
    · exact pq_ne (by omega) (by omega) (by omega) (h.1 _ _ (lv_p hq (by omega)) l2 z)
  · obtain ⟨m1, m2, m3, m4, m5, m6⟩ := hM q hq
    have key : ∀ i, i < Y.2.1 q → ¬ (q = p ∧ i = k) → ∀ u, pm_tm S (Y.1 (pq q (30 + Y.2.2 q i))) (Y.1 (pq q (80 + Y.2.2 q i))) u → pm_tm S' (Y.1 (pq q (30 + Y.2.2 q i))) (Y.1 (pq q (80 + Y.2.2 q i))) u := by
      intro i hi hne u hu
      have hi2 := (m4 i hi).1
      refine hu.ft hf (fun z => ?_) (fun z => ?_)
      · obtain ⟨e1, e2⟩ := pq_inj (by omega) (by omega) (h.1 _ _ (lv_m hq hi2 m2) l1 z)
        subst e1
        exact hne ⟨rfl, m5 i k hi hk (by omega)⟩
      · obtain ⟨e1, e2⟩ := pq_inj (by omega) (by omega) (h.1 _ _ (lv_n hq hi2 m2) l2 z)
        subst e1
        exact hne ⟨rfl, m5 i k hi hk (by omega)⟩
    refine ⟨m1, m2, fun i hi => ?_, fun i hi => ⟨(m4 i hi).1, ?_⟩, m5, fun i hi => ?_⟩
    · rw [(hf.2.2.2 _ (fun z => np q 5 (by omega) (by omega) (h.1 _ _ (lv_p hq (by omega)) l2 z).symm)).2.2]
      exact m3 i hi
    · by_cases e : q = p ∧ i = k
      · obtain ⟨e1, e2⟩ := e
        subst e1; subst e2
        exact ⟨w, ht⟩
      · obtain ⟨u, hu⟩ := (m4 i hi).2
        exact ⟨u, key i hi e u hu⟩
    · rw [z_t_t]
      by_cases e : q = p ∧ i = k
      · obtain ⟨e1, e2⟩ := e
        subst e1; subst e2
        rw [if_pos ⟨rfl, rfl, rfl⟩]
        exact ht
      · rw [if_neg (fun z => e z.2)]
        have hi' : i < az_b Z 9 q := hi
        exact key i (by omega) e _ (m6 i hi')
end CRM
