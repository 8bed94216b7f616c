/-! one write (2): numbers of the whole, waiting times, terms -/
section CRX
variable {Z : az} {S S' E : pm_S} {Y : pm_Y}
/-- a number of the whole (not how many processes there are) -/
theorem pm_CR.a {f c i v : Nat} (h : pm_CR Z S Y E) (ht : tbA f = some (c, i)) (h0 : i ≠ 0)
    (h1 : i = 1 → ∀ k, k < v → pm_z S (Y.1 4) k = some (Y.1 (pq (az_c Z 3 0 k) 0)) := by intro h; exact absurd h (by decide))
    (h9 : i = 9 → ∀ k, k < 600 → k < v → pm_x S (Y.1 10) k = az_x Z 1 k := by intro h; exact absurd h (by decide)) :
    pm_CR (zs_a Z i v) (pm_si S f (Y.1 c) (nI v)) Y E := by
  obtain ⟨tc, t1, t2, t3, t4, t5⟩ := tbA_c ht
  have e0 : az_a (zs_a Z i v) 0 = az_a Z 0 := by rw [z_a_a, if_neg (fun z => h0 z.symm)]
  obtain ⟨g1, g2, g3, g4, g5, g6, g7, g8, g9, g10, g11, g12, g13, g14, g15⟩ := id h
  refine ⟨by rw [e0]; exact g1, by rw [e0]; exact g2, g3, fun q hq => ?_, fun q hq f' c' i' h' => ?_, fun f' c' i' h' => ?_, ⟨fun q hq => ?_, g7.2⟩, fun q hq => ?_, ⟨g9.1, fun k hk hk2 => ?_⟩, fun q hq => ?_, ⟨?_, g11.2⟩, ⟨fun q hq => ?_, fun k hk => ?_⟩, fun q hq => ?_, fun q hq => ?_, g15.si (fun d hd => h.out (lv_c (by omega)) (by omega) hd)⟩
  · rw [e0] at hq
    obtain ⟨⟨a1, a2, a3, a4, a5, a6⟩, a7⟩ := g4 q hq
    exact ⟨⟨a1, a2, a3, a4, a5, by rw [pm_i_si, if_neg (fun z => t1 z.1.symm)]; exact a6⟩, a7⟩
  · rw [e0] at hq
    rw [pm_i_si, if_neg (fun z => by rw [z.1, t5] at h'; cases h')]
    exact g5 q hq f' c' i' h'
  · rw [pm_i_si, z_a_a]
    by_cases e : f' = f ∧ Y.1 c' = Y.1 c
    · obtain ⟨e1, e2⟩ := e
      subst e1
      rw [ht] at h'
      cases h'
      rw [if_pos ⟨rfl, e2⟩, if_pos rfl]
    · rw [if_neg e, if_neg (fun z => e ?_)]
      · exact g6 f' c' i' h'
      · subst z
        have e1 := tbA_inj h' ht
        subst e1
        rw [ht] at h'
        cases h'
        exact ⟨rfl, rfl⟩
  · rw [e0] at hq
    rw [pm_i_si, if_neg (fun z => t2 z.1.symm)]
    exact g7.1 q hq
  · rw [e0] at hq
    exact g8 q hq
  · rw [z_a_a] at hk2
    by_cases e : 9 = i
    · rw [if_pos e] at hk2
      exact h9 e.symm k hk hk2
    · rw [if_neg e] at hk2
      exact g9.2 k hk hk2
  · rw [e0] at hq
    exact g10 q hq
  · rw [pm_i_si, if_neg (fun z => t3 z.1.symm)]
    exact g11.1
  · rw [e0] at hq
    exact g12.1 q hq
  · rw [z_a_a] at hk
    by_cases e : 1 = i
    · rw [if_pos e] at hk
      exact h1 e.symm k hk
    · rw [if_neg e] at hk
      exact g12.2 k hk
  · rw [e0] at hq
    exact ⟨fun j hj => ((g13 q hq).1 j hj).si t4, (g13 q hq).2.si t4⟩
  · rw [e0] at hq
    obtain ⟨m1, m2, m3, m4, m5, m6⟩ := g14 q hq
    exact ⟨m1, m2, m3, fun k hk => ⟨(m4 k hk).1, (m4 k hk).2.elim (fun w q => ⟨w, q.si t4⟩)⟩, m5, fun k hk => (m6 k hk).si t4⟩
/-- until when a process waits -/
theorem pm_CR.dl {p : Nat} {r : Option Nat} (h : pm_CR Z S Y E) (hn : az_a Z 0 ≤ 60) (hp : p < az_a Z 0) : pm_CR (zs_e Z 1 p r) (pm_sj S 60 (Y.1 (pq p 0)) (zDl r)) Y E := by
  obtain ⟨g1, g2, g3, g4, g5, g6, g7, g8, g9, g10, g11, g12, g13, g14, g15⟩ := id h
  refine ⟨g1, g2, g3, g4, g5, g6, g7, fun q hq => ⟨?_, ?_⟩, g9, g10, g11, g12, g13, g14, fun c hc => ?_⟩
  · rw [pm_j_sj, z_e_e]
    by_cases e : q = p
    · rw [e, if_pos ⟨rfl, rfl⟩, if_pos ⟨rfl, rfl⟩]
    · rw [if_neg (fun z => e (h.pp hq hp (by omega) (by omega) z.2).1), if_neg (fun z => e z.2)]
      exact (g8 q hq).1
  · intro i hi
    rw [pm_j_sj, if_neg (fun z => by omega)]
    exact (g8 q hq).2 i hi
  · obtain ⟨a1, a2, a3, a4, a5⟩ := g15 c hc
    exact ⟨a1, a2, a3, fun g => by rw [pm_j_sj, if_neg (fun z => h.out (lv_p hp (by omega)) (pq_lt hp hn (by omega)) hc z.2)]; exact a4 g, a5⟩
/-- codes of rows of terms -/
def rwc (c : Nat) : Prop := c = 12 ∨ c = 14 ∨ ∃ p d, c = pq p d ∧ d < 200 ∧ (d = 3 ∨ 20 ≤ d)
theorem rwc_no {c : Nat} (h : rwc c) : c ≠ 0 ∧ c ≠ 1 ∧ c ≠ 2 ∧ c ≠ 3 ∧ c ≠ 4 ∧ c ≠ 5 ∧ c ≠ 6 ∧ c ≠ 7 ∧ c ≠ 8 ∧ c ≠ 9 ∧ c ≠ 10 ∧ ∀ p d, d < 20 → d ≠ 3 → c ≠ pq p d := by
  rcases h with rfl | rfl | ⟨p, d, rfl, hd, h⟩
  · refine ⟨by omega, by omega, by omega, by omega, by omega, by omega, by omega, by omega, by omega, by omega, by omega, fun p d h1 h2 z => ?_⟩
    unfold pq at z
    omega
  · refine ⟨by omega, by omega, by omega, by omega, by omega, by omega, by omega, by omega, by omega, by omega, by omega, fun p d h1 h2 z => ?_⟩
    unfold pq at z
    omega
  · have h0 : 100 ≤ pq p d := by unfold pq; omega
    refine ⟨by omega, by omega, by omega, by omega, by omega, by omega, by omega, by omega, by omega, by omega, by omega, fun q e h1 h2 z => ?_⟩
    have := pq_inj hd (by omega) z
    omega
/-- the relation but for the terms -/
def pm_CR0 (Z : az) (S : pm_S) (Y : pm_Y) (E : pm_S) : Prop :=
  (∀ c d, lv (az_a Z 0) Y.2.1 c → lv (az_a Z 0) Y.2.1 d → Y.1 c = Y.1 d → c = d) ∧ (∀ c, lv (az_a Z 0) Y.2.1 c → pm_k S (Y.1 c) ≠ 0) ∧ sC S Y.1 ∧ (∀ p, p < az_a Z 0 → sP S Y.1 p) ∧ vB Z S Y.1 ∧ vA Z S Y.1 ∧ vN Z S Y.1 ∧ vJ Z S Y.1 ∧ vX Z S Y.1 ∧ vK Z S Y.1 ∧ vW Z S Y.1 ∧ vP Z S Y.1 ∧ vE E S Y.1
theorem pm_CR0.mk (h : pm_CR0 Z S Y E) (hT : vT Z S Y.1) (hM : vM Z S Y.1 Y.2.1 Y.2.2) : pm_CR Z S Y E := by
  obtain ⟨g1, g2, g3, g4, g5, g6, g7, g8, g9, g10, g11, g12, g15⟩ := h
  exact ⟨g1, g2, g3, g4, g5, g6, g7, g8, g9, g10, g11, g12, hT, hM, g15⟩
/-- everything but the terms, behind a change of one term -/
theorem pm_CR.ft0 {tc rc : Nat} (h : pm_CR Z S Y E) (ht : lv (az_a Z 0) Y.2.1 tc) (hr : lv (az_a Z 0) Y.2.1 rc) (ht2 : tc < 20000) (hrc : rwc rc) (hr2 : rc < 20000) (hf : pm_ft S S' (Y.1 tc) (Y.1 rc)) : pm_CR0 Z S' Y E := by
  obtain ⟨g1, g2, g3, g4, g5, g6, g7, g8, g9, g10, g11, g12, g13, g14, g15⟩ := id h
  obtain ⟨f1, f2, f3, f4⟩ := id hf
  have fi : ∀ g b, g ≠ 151 → pm_i S' g b = pm_i S g b := fun g b hg => (f3 g b (fun z => hg z.1)).1
  have fj : ∀ g b, g ≠ 151 → pm_j S' g b = pm_j S g b := fun g b hg => (f3 g b (fun z => hg z.1)).2.1
  have fp : ∀ g b, g ≠ 151 → pm_p S' g b = pm_p S g b := fun g b hg => (f3 g b (fun z => hg z.1)).2.2
  have fx : ∀ c, lv (az_a Z 0) Y.2.1 c → c ≠ rc → pm_x S' (Y.1 c) = pm_x S (Y.1 c) := fun c hc hne => (f4 _ (fun z => hne (g1 _ _ hc hr z))).1
  have fz : ∀ c, lv (az_a Z 0) Y.2.1 c → c ≠ rc → pm_z S' (Y.1 c) = pm_z S (Y.1 c) := fun c hc hne => (f4 _ (fun z => hne (g1 _ _ hc hr z))).2.2
  have no := rwc_no hrc
  obtain ⟨n0, n1, n2, n3, n4, n5, n6, n7, n8, n9, n10, np⟩ := no
  have fto : ∀ t r, pm_to S t r → pm_to S' t r := fun t r q => q.ft hf
  refine ⟨g1, fun c hc => by rw [f1]; exact g2 c hc, ?_, fun q hq => ?_, fun q hq f' c' i' h' => ?_, fun f' c' i' h' => ?_, ⟨fun q hq => ?_, fun a ha => ?_⟩, fun q hq => ?_, ⟨fun i hi => ?_, fun i hi hi2 => ?_⟩, fun q hq => ?_, ⟨?_, ?_⟩, ⟨fun q hq => ?_, fun k hk => ?_⟩, fun c hc => ?_⟩
  · obtain ⟨⟨a0, a1, a2, a3, a4, a5, a6, a7, a8⟩, b1, b2, b3, b4, ⟨w0, w1, w2, w3, w4⟩, ⟨s0, s1, s2⟩, l1, l2⟩ := g3
    refine ⟨⟨by rw [f1]; exact a0, by rw [fp _ _ (by decide)]; exact a1, by rw [fp _ _ (by decide)]; exact a2, by rw [fp _ _ (by decide)]; exact a3, by rw [fp _ _ (by decide)]; exact a4, by rw [fp _ _ (by decide)]; exact a5, by rw [fp _ _ (by decide)]; exact a6, by rw [fp _ _ (by decide)]; exact a7, by rw [fp _ _ (by decide)]; exact a8⟩, by rw [f1, f2]; exact b1, by rw [f1, f2]; exact b2, by rw [f1, f2]; exact b3, by rw [f1, f2]; exact b4, ⟨by rw [f1]; exact w0, by rw [fp _ _ (by decide)]; exact w1, by rw [fp _ _ (by decide)]; exact w2, by rw [fp _ _ (by decide)]; exact w3, by rw [f1, f2]; exact w4⟩, ⟨by rw [f1]; exact s0, by rw [fp _ _ (by decide)]; exact s1, by rw [f1, f2]; exact s2⟩, fto _ _ l1, fto _ _ l2⟩
  · obtain ⟨⟨a1, a2, a3, a4, a5, a6⟩, ⟨r1, r2, r3⟩, ⟨m1, m2, m3⟩, t1, t2, t3, t4, t5⟩ := g4 q hq
    refine ⟨⟨by rw [f1]; exact a1, by rw [fp _ _ (by decide)]; exact a2, by rw [fp _ _ (by decide)]; exact a3, by rw [fp _ _ (by decide)]; exact a4, by rw [fp _ _ (by decide)]; exact a5, by rw [fi _ _ (by decide)]; exact a6⟩, ⟨by rw [f1]; exact r1, by rw [f2]; exact r2, fun j hj => by rw [fz _ (lv_p hq (by omega)) (fun z => np q 1 (by omega) (by omega) z.symm)]; exact r3 j hj⟩, ⟨by rw [f1]; exact m1, by rw [fp _ _ (by decide)]; exact m2, by rw [f1, f2]; exact m3⟩, by rw [f1]; exact t1, by rw [fp _ _ (by decide)]; exact t2, by rw [fp _ _ (by decide)]; exact t3, by rw [fp _ _ (by decide)]; exact t4, by rw [f1, f2]; exact t5⟩
  · rw [fi _ _ (tbB_c h').2.2.2.2.1]
    exact g5 q hq f' c' i' h'
  · rw [fi _ _ (tbA_c h').2.2.2.2.1]
    exact g6 f' c' i' h'
  · rw [fi _ _ (by decide)]
    exact g7.1 q hq
  · rw [fz 3 (lv_c (by omega)) (fun z => n3 z.symm)]
    exact g7.2 a ha
  · rw [fj _ _ (by decide), fj _ _ (by decide)]
    exact g8 q hq
  · rw [fx 1 (lv_c (by omega)) (fun z => n1 z.symm)]
    exact g9.1 i hi
  · rw [fx 10 (lv_c (by omega)) (fun z => n10 z.symm)]
    exact g9.2 i hi hi2
  · rw [fx _ (lv_p hq (by omega)) (fun z => np q 7 (by omega) (by omega) z.symm), fx _ (lv_p hq (by omega)) (fun z => np q 8 (by omega) (by omega) z.symm), fx _ (lv_p hq (by omega)) (fun z => np q 9 (by omega) (by omega) z.symm)]
    exact g10 q hq
  · rw [fi _ _ (by decide)]
    exact g11.1
  · intro i hi
    rw [fx 6 (lv_c (by omega)) (fun z => n6 z.symm), fx 7 (lv_c (by omega)) (fun z => n7 z.symm), fx 8 (lv_c (by omega)) (fun z => n8 z.symm)]
    exact g11.2 i hi
  · rw [fz 2 (lv_c (by omega)) (fun z => n2 z.symm)]
    exact g12.1 q hq
  · rw [fz 4 (lv_c (by omega)) (fun z => n4 z.symm)]
    exact g12.2 k hk
  · obtain ⟨a1, a2, a3, a4, a5, a6, a7, a8⟩ := g15 c hc
    have o1 : Y.1 c ≠ Y.1 tc := h.out ht ht2 hc
    have o2 : Y.1 c ≠ Y.1 rc := h.out hr hr2 hc
    exact ⟨by rw [f1]; exact a1, by rw [f2]; exact a2, fun g => by rw [(f3 g _ (fun z => o1 z.2)).1]; exact a3 g, fun g => by rw [(f3 g _ (fun z => o1 z.2)).2.1]; exact a4 g, fun g => by rw [(f3 g _ (fun z => o1 z.2)).2.2]; exact a5 g, fun k => by rw [(f4 _ o2).1]; exact a6 k, fun k => by rw [(f4 _ o2).2.1]; exact a7 k, fun k => by rw [(f4 _ o2).2.2]; exact a8 k⟩
/-- the mailboxes, behind a change of a term that is in none -/
theorem pm_CR.ftM {tc rc : Nat} (h : pm_CR Z S Y E) (hf : pm_ft S S' (Y.1 tc) (Y.1 rc)) (ht : lv (az_a Z 0) Y.2.1 tc) (hr : lv (az_a Z 0) Y.2.1 rc) (h1 : ∀ p d, 30 ≤ d → d < 70 → tc ≠ pq p d) (h2 : ∀ p d, 80 ≤ d → d < 120 → rc ≠ pq p d) (h3 : rwc rc) : vM Z S' Y.1 Y.2.1 Y.2.2 := by
  obtain ⟨g1, g2, g3, g4, g5, g6, g7, g8, g9, g10, g11, g12, g13, g14, g15⟩ := id h
  obtain ⟨n0, n1, n2, n3, n4, n5, n6, n7, n8, n9, n10, np⟩ := rwc_no h3
  intro q hq
  obtain ⟨m1, m2, m3, m4, m5, m6⟩ := g14 q hq
  have key : ∀ k, k < Y.2.1 q → ∀ w, pm_tm S (Y.1 (pq q (30 + Y.2.2 q k))) (Y.1 (pq q (80 + Y.2.2 q k))) w → pm_tm S' (Y.1 (pq q (30 + Y.2.2 q k))) (Y.1 (pq q (80 + Y.2.2 q k))) w := by
    intro k hk w hw
    have hk2 := (m4 k hk).1
    refine hw.ft hf (fun z => ?_) (fun z => ?_)
    · exact h1 q (30 + Y.2.2 q k) (by omega) (by omega) (g1 _ _ (lv_m hq hk2 m2) ht z).symm
    · exact h2 q (80 + Y.2.2 q k) (by omega) (by omega) (g1 _ _ (lv_n hq hk2 m2) hr z).symm
  refine ⟨m1, m2, fun k hk => ?_, fun k hk => ⟨(m4 k hk).1, (m4 k hk).2.elim (fun w q => ⟨w, key k hk w q⟩)⟩, m5, fun k hk => key k (by omega) _ (m6 k hk)⟩
  · rw [(hf.2.2.2 _ (fun z => np q 5 (by omega) (by omega) (g1 _ _ (lv_p hq (by omega)) hr z).symm)).2.2]
    exact m3 k hk
theorem pq_ne {p q d e : Nat} (hd : d < 200) (he : e < 200) (h : d ≠ e) : pq p d ≠ pq q e := fun z => h (pq_inj hd he z).2
theorem pq_low {p d c : Nat} (hc : c < 100) : c ≠ pq p d := fun z => by unfold pq at z; omega
/-- a register -/
theorem pm_CR.rg {p j : Nat} {w : List Int32} (h : pm_CR Z S Y E) (hn : az_a Z 0 ≤ 60) (hp : p < az_a Z 0) (hj : j < 8) (hf : pm_ft S S' (Y.1 (pq p (10 + j))) (Y.1 (pq p (20 + j)))) (ht : pm_tm S' (Y.1 (pq p (10 + j))) (Y.1 (pq p (20 + j))) w) : pm_CR (zs_t Z 0 p j w) S' Y E := by
  have l1 : lv (az_a Z 0) Y.2.1 (pq p (10 + j)) := lv_p hp (by omega)
  have l2 : lv (az_a Z 0) Y.2.1 (pq p (20 + j)) := lv_r hp hj
  have h3 : rwc (pq p (20 + j)) := Or.inr (Or.inr ⟨p, 20 + j, rfl, by omega, Or.inr (by omega)⟩)
  have h0 := h.ft0 l1 l2 (pq_lt hp hn (by omega)) h3 (pq_lt hp hn (by omega)) hf
  have hM := h.ftM hf l1 l2 (fun q d _ _ => pq_ne (by omega) (by omega) (by omega)) (fun q d _ _ => pq_ne (by omega) (by omega) (by omega)) h3
  refine pm_CR0.mk (Z := zs_t Z 0 p j w) h0 (fun q hq => ⟨fun i hi => ?_, ?_⟩) (fun q hq => ?_)
  · rw [z_t_t]
    by_cases e : q = p ∧ i = j
    · obtain ⟨e1, e2⟩ := e
      subst e1; subst e2
      rw [if_pos ⟨rfl, rfl, rfl⟩]
      exact ht
    · rw [if_neg (fun z => e z.2)]
      refine ((h.2.2.2.2.2.2.2.2.2.2.2.2.1 q hq).1 i hi).ft hf (fun z => ?_) (fun z => ?_)
      · have := pq_inj (by omega) (by omega) (h.1 _ _ (lv_p hq (by omega)) l1 z)
        exact e ⟨this.1, by omega⟩
      · have := pq_inj (by omega) (by omega) (h.1 _ _ (lv_r hq hi) l2 z)
        exact e ⟨this.1, by omega⟩
  · rw [z_t_t, if_neg (fun z => by omega)]
    refine (h.2.2.2.2.2.2.2.2.2.2.2.2.1 q hq).2.ft hf (fun z => ?_) (fun z => ?_)
    · exact pq_ne (by omega) (by omega) (by omega) (h.1 _ _ (lv_p hq (by omega)) l1 z)
    · exact pq_ne (by omega) (by omega) (by omega) (h.1 _ _ (lv_p hq (by omega)) l2 z)
  · obtain ⟨m1, m2, m3, m4, m5, m6⟩ := hM q hq
    exact ⟨m1, m2, m3, m4, m5, fun k hk => by rw [z_t_t, if_neg (fun z => by omega)]; exact m6 k hk⟩
/-- the reason of a death -/
theorem pm_CR.rs {p : Nat} {w : List Int32} (h : pm_CR Z S Y E) (hn : az_a Z 0 ≤ 60) (hp : p < az_a Z 0) (hf : pm_ft S S' (Y.1 (pq p 2)) (Y.1 (pq p 3))) (ht : pm_tm S' (Y.1 (pq p 2)) (Y.1 (pq p 3)) w) : pm_CR (zs_t Z 1 p 0 w) S' Y E := by
  have l1 : lv (az_a Z 0) Y.2.1 (pq p 2) := lv_p hp (by omega)
  have l2 : lv (az_a Z 0) Y.2.1 (pq p 3) := lv_p hp (by omega)
  have h3 : rwc (pq p 3) := Or.inr (Or.inr ⟨p, 3, rfl, by omega, Or.inl rfl⟩)
  have h0 := h.ft0 l1 l2 (pq_lt hp hn (by omega)) h3 (pq_lt hp hn (by omega)) hf
  have hM := h.ftM hf l1 l2 (fun q d _ _ => pq_ne (by omega) (by omega) (by omega)) (fun q d _ _ => pq_ne (by omega) (by omega) (by omega)) h3
  refine pm_CR0.mk (Z := zs_t Z 1 p 0 w) h0 (fun q hq => ⟨fun i hi => ?_, ?_⟩) (fun q hq => ?_)
  · rw [z_t_t, if_neg (fun z => by omega)]
    refine ((h.2.2.2.2.2.2.2.2.2.2.2.2.1 q hq).1 i hi).ft hf (fun z => ?_) (fun z => ?_)
    · exact pq_ne (by omega) (by omega) (by omega) (h.1 _ _ (lv_p hq (by omega)) l1 z)
    · exact pq_ne (by omega) (by omega) (by omega) (h.1 _ _ (lv_r hq hi) l2 z)
  · rw [z_t_t]
    by_cases e : q = p
    · subst e
      rw [if_pos ⟨rfl, rfl, rfl⟩]
      exact ht
    · rw [if_neg (fun z => e z.2.1)]
      refine (h.2.2.2.2.2.2.2.2.2.2.2.2.1 q hq).2.ft hf (fun z => ?_) (fun z => ?_)
      · exact e (pq_inj (by omega) (by omega) (h.1 _ _ (lv_p hq (by omega)) l1 z)).1
      · exact e (pq_inj (by omega) (by omega) (h.1 _ _ (lv_p hq (by omega)) l2 z)).1
  · obtain ⟨m1, m2, m3, m4, m5, m6⟩ := hM q hq
    exact ⟨m1, m2, m3, m4, m5, fun k hk => by rw [z_t_t, if_neg (fun z => by omega)]; exact m6 k hk⟩
/-- the mill's own two terms -/
theorem pm_CR.own {t : Nat} (h : pm_CR Z S Y E) (ht : t = 11 ∨ t = 13) (hf : pm_ft S S' (Y.1 t) (Y.1 (t + 1))) : pm_CR Z S' Y E := by
  have l1 : lv (az_a Z 0) Y.2.1 t := lv_c (by omega)
  have l2 : lv (az_a Z 0) Y.2.1 (t + 1) := lv_c (by omega)
  have h3 : rwc (t + 1) := by rcases ht with rfl | rfl; exact Or.inl rfl; exact Or.inr (Or.inl rfl)
  have h0 := h.ft0 l1 l2 (by omega) h3 (by omega) hf
  have hM := h.ftM hf l1 l2 (fun q d _ _ => pq_low (by omega)) (fun q d _ _ => pq_low (by omega)) h3
  refine pm_CR0.mk h0 (fun q hq => ⟨fun i hi => ?_, ?_⟩) hM
  · refine ((h.2.2.2.2.2.2.2.2.2.2.2.2.1 q hq).1 i hi).ft hf (fun z => ?_) (fun z => ?_)
    · exact pq_low (c := t) (by omega) (h.1 _ _ (lv_p hq (by omega)) l1 z).symm
    · exact pq_low (c := t + 1) (by omega) (h.1 _ _ (lv_r hq hi) l2 z).symm
  · refine (h.2.2.2.2.2.2.2.2.2.2.2.2.1 q hq).2.ft hf (fun z => ?_) (fun z => ?_)
    · exact pq_low (c := t) (by omega) (h.1 _ _ (lv_p hq (by omega)) l1 z).symm
    · exact pq_low (c := t + 1) (by omega) (h.1 _ _ (lv_p hq (by omega)) l2 z).symm
end CRX
