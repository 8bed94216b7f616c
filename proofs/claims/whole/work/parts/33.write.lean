/-! one write, in the memory and in the state -/
theorem tbB_inj {f g c d i : Nat} (h1 : tbB f = some (c, i)) (h2 : tbB g = some (d, i)) : f = g := by
  unfold tbB at h1 h2
  split at h1 <;> first | (cases h1; done) | (cases h1; split at h2 <;> first | (cases h2; done) | rfl)
theorem tbA_inj {f g c d i : Nat} (h1 : tbA f = some (c, i)) (h2 : tbA g = some (d, i)) : f = g := by
  unfold tbA at h1 h2
  split at h1 <;> first | (cases h1; done) | (cases h1; split at h2 <;> first | (cases h2; done) | rfl)
theorem tbB_c {f c i : Nat} (h : tbB f = some (c, i)) : c < 7 ∧ f ≠ 50 ∧ f ≠ 62 ∧ f ≠ 253 ∧ f ≠ 151 ∧ tbA f = none := by
  unfold tbB at h
  split at h <;> first | (cases h; done) | (cases h; exact ⟨by decide, by decide, by decide, by decide, by decide, rfl⟩)
theorem tbA_c {f c i : Nat} (h : tbA f = some (c, i)) : c < 10 ∧ f ≠ 50 ∧ f ≠ 62 ∧ f ≠ 253 ∧ f ≠ 151 ∧ tbB f = none := by
  unfold tbA at h
  split at h <;> first | (cases h; done) | (cases h; exact ⟨by decide, by decide, by decide, by decide, by decide, rfl⟩)
theorem lv_pc {n : Nat} {mk : Nat → Nat} {c : Nat} (h : (20000 ≤ c ∧ c < 20031) ∨ c = 30000) : lv n mk c := Or.inr (Or.inr h)
theorem pm_tm.si {S : pm_S} {t r f a : Nat} {w : List Int32} {v : Int32} (h : pm_tm S t r w) (hf : f ≠ 151) : pm_tm (pm_si S f a v) t r w := ⟨h.1, by rw [pm_i_si, if_neg (fun z => hf z.1.symm)]; exact h.2.1, h.2.2.1, h.2.2.2⟩
section CRW
variable {Z : az} {S E : pm_S} {Y : pm_Y}
theorem pm_CR.out {c d : Nat} (h : pm_CR Z S Y E) (hc : lv (az_a Z 0) Y.2.1 c) (hc2 : c < 20000) (hd : (20000 ≤ d ∧ d < 20031) ∨ d = 30000) : Y.1 d ≠ Y.1 c := fun e => by
  have := h.1 d c (lv_pc hd) hc e
  omega
theorem pm_CR.pp {p q c d : Nat} (h : pm_CR Z S Y E) (hp : p < az_a Z 0) (hq : q < az_a Z 0) (hc : c < 18) (hd : d < 18) (e : Y.1 (pq p c) = Y.1 (pq q d)) : p = q ∧ c = d := pq_inj (by omega) (by omega) (h.1 _ _ (lv_p hp hc) (lv_p hq hd) e)
theorem pm_CR.pc {p c d : Nat} (h : pm_CR Z S Y E) (hp : p < az_a Z 0) (hc : c < 18) (hd : d < 15) : Y.1 (pq p c) ≠ Y.1 d := fun e => by
  have := h.1 _ _ (lv_p hp hc) (lv_c hd) e
  unfold pq at this
  omega
theorem vE.si {S E : pm_S} {ad : Nat → Nat} {f a : Nat} {v : Int32} (h : vE E S ad) (ha : ∀ d, (20000 ≤ d ∧ d < 20031) ∨ d = 30000 → ad d ≠ a) : vE E (pm_si S f a v) ad := fun c hc => by
  obtain ⟨a1, a2, a3, a4⟩ := h c hc
  exact ⟨a1, a2, fun g => by rw [pm_i_si, if_neg (fun z => ha c hc z.2)]; exact a3 g, a4⟩
theorem pq_lt {p c n : Nat} (hp : p < n) (hn : n ≤ 60) (hc : c < 200) : pq p c < 20000 := by
  unfold pq
  omega
/-- a number of a process -/
theorem pm_CR.b {p f c i v : Nat} (h : pm_CR Z S Y E) (hn : az_a Z 0 ≤ 60) (hp : p < az_a Z 0) (ht : tbB f = some (c, i))
    (h7 : i = 7 → ∀ k, k < v → pm_x S (Y.1 (pq p 7)) k = nI (az_c Z 0 p k) := by intro h; exact absurd h (by decide))
    (h8 : i = 8 → ∀ k, k < v → pm_x S (Y.1 (pq p 8)) k = nI (az_c Z 1 p k) ∧ pm_x S (Y.1 (pq p 9)) k = nI (az_c Z 2 p k) := by intro h; exact absurd h (by decide))
    (h9 : i = 9 → v ≤ Y.2.1 p ∧ ∀ k, k < v → pm_tm S (Y.1 (pq p (30 + Y.2.2 p k))) (Y.1 (pq p (80 + Y.2.2 p k))) (az_t Z 2 p k) := by intro h; exact absurd h (by decide)) :
    pm_CR (zs_b Z i p v) (pm_si S f (Y.1 (pq p c)) (nI v)) Y E := by
  obtain ⟨tc, t1, t2, t3, t4, t5⟩ := tbB_c ht
  obtain ⟨g1, g2, g3, g4, g5, g6, g7, g8, g9, g10, g11, g12, g13, g14, g15⟩ := id h
  refine ⟨g1, g2, g3, fun q hq => ?_, fun q hq f' c' i' h' => ?_, fun f' c' i' h' => ?_, ⟨fun q hq => ?_, g7.2⟩, g8, g9, fun q hq => ?_, ⟨?_, g11.2⟩, g12, fun q hq => ?_, fun q hq => ?_, g15.si (fun d hd => h.out (lv_p hp (by omega)) (pq_lt hp hn (by omega)) hd)⟩
  · obtain ⟨⟨a1, a2, a3, a4, a5, a6⟩, a7⟩ := g4 q hq
    exact ⟨⟨a1, a2, a3, a4, a5, by rw [pm_i_si, if_neg (fun z => t1 z.1.symm)]; exact a6⟩, a7⟩
  · rw [pm_i_si, z_b_b]
    by_cases e : f' = f ∧ Y.1 (pq q c') = Y.1 (pq p c)
    · obtain ⟨e1, e2⟩ := e
      subst e1
      rw [ht] at h'
      cases h'
      obtain ⟨e3, -⟩ := h.pp hq hp (by omega) (by omega) e2
      rw [if_pos ⟨rfl, e2⟩, if_pos ⟨rfl, e3⟩]
    · rw [if_neg e, if_neg (fun z => e ?_)]
      · exact g5 q hq f' c' i' h'
      · obtain ⟨z1, z2⟩ := z
        subst z1
        have e1 := tbB_inj h' ht
        subst e1
        rw [ht] at h'
        cases h'
        exact ⟨rfl, by rw [z2]⟩
  · rw [pm_i_si, if_neg (fun z => by rw [z.1, t5] at h'; cases h')]
    exact g6 f' c' i' h'
  · rw [pm_i_si, if_neg (fun z => t2 z.1.symm)]
    exact g7.1 q hq
  · obtain ⟨b1, b2, b3⟩ := g10 q hq
    refine ⟨fun k hk => ?_, fun k hk => ?_, fun k hk => ?_⟩
    · rw [z_b_b] at hk
      by_cases e : 7 = i ∧ q = p
      · rw [if_pos e] at hk
        rw [e.2]
        exact h7 e.1.symm k hk
      · rw [if_neg e] at hk
        exact b1 k hk
    · rw [z_b_b] at hk
      by_cases e : 8 = i ∧ q = p
      · rw [if_pos e] at hk
        rw [e.2]
        exact (h8 e.1.symm k hk).1
      · rw [if_neg e] at hk
        exact b2 k hk
    · rw [z_b_b] at hk
      by_cases e : 8 = i ∧ q = p
      · rw [if_pos e] at hk
        rw [e.2]
        exact (h8 e.1.symm k hk).2
      · rw [if_neg e] at hk
        exact b3 k hk
  · rw [pm_i_si, if_neg (fun z => t3 z.1.symm)]
    exact g11.1
  · exact ⟨fun j hj => ((g13 q hq).1 j hj).si t4, (g13 q hq).2.si t4⟩
  · obtain ⟨m1, m2, m3, m4, m5, m6⟩ := g14 q hq
    refine ⟨?_, m2, m3, fun k hk => ⟨(m4 k hk).1, (m4 k hk).2.elim (fun w q => ⟨w, q.si t4⟩)⟩, m5, fun k hk => ?_⟩
    · rw [z_b_b]
      by_cases e : 9 = i ∧ q = p
      · rw [if_pos e, e.2]
        exact (h9 e.1.symm).1
      · rw [if_neg e]
        exact m1
    · rw [z_b_b] at hk
      by_cases e : 9 = i ∧ q = p
      · rw [if_pos e] at hk
        rw [e.2]
        exact ((h9 e.1.symm).2 k hk).si t4
      · rw [if_neg e] at hk
        exact (m6 k hk).si t4
end CRW
