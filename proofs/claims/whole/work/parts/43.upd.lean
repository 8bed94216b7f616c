/-! one write (3): names, the dying, the program, the trail, links -/
section CRU
variable {Z : az} {S S' E : pm_S} {Y : pm_Y}
theorem pm_CR.cc {c d : Nat} (h : pm_CR Z S Y E) (hc : c < 15) (hd : d < 15) (e : Y.1 c = Y.1 d) : c = d := h.1 _ _ (lv_c hc) (lv_c hd) e
theorem pm_CR.p5 {p : Nat} (h : pm_CR Z S Y E) (hp : p < az_a Z 0) {d : Nat} (hd : d < 15) {c : Nat} (hc : c < 18) : Y.1 (pq p c) ≠ Y.1 d := h.pc hp hc hd
/-- an element of an array of references of the mill's own -/
theorem pm_CR.zo {c k : Nat} {v : Option Nat} (h : pm_CR Z S Y E) (hc : c < 15) : (∀ p, p < az_a Z 0 → sP (pm_sz S (Y.1 c) k v) Y.1 p) ∧ vM Z (pm_sz S (Y.1 c) k v) Y.1 Y.2.1 Y.2.2 ∧ vE E (pm_sz S (Y.1 c) k v) Y.1 := by
  obtain ⟨g1, g2, g3, g4, g5, g6, g7, g8, g9, g10, g11, g12, g13, g14, g15⟩ := id h
  refine ⟨fun p hp => ?_, fun p hp => ?_, fun d hd => ?_⟩
  · obtain ⟨a, ⟨b1, b2, b3⟩, c1, d1⟩ := g4 p hp
    exact ⟨a, ⟨b1, b2, fun j hj => by rw [pm_z_sz, if_neg (fun z => h.pc hp (by omega) hc z.1)]; exact b3 j hj⟩, c1, d1⟩
  · obtain ⟨m1, m2, m3, m4, m5, m6⟩ := g14 p hp
    exact ⟨m1, m2, fun j hj => by rw [pm_z_sz, if_neg (fun z => h.pc hp (by omega) hc z.1)]; exact m3 j hj, m4, m5, m6⟩
  · obtain ⟨a1, a2, a3, a4, a5, a6, a7, a8⟩ := g15 d hd
    exact ⟨a1, a2, a3, a4, a5, a6, a7, fun j => by rw [pm_z_sz, if_neg (fun z => h.out (lv_c hc) (by omega) hd z.1)]; exact a8 j⟩
/-- who has a name -/
theorem pm_CR.n2 {a : Nat} {r : Option Nat} (h : pm_CR Z S Y E) : pm_CR (zs_e Z 2 a r) (pm_sz S (Y.1 3) a (r.map (fun p => Y.1 (pq p 0)))) Y E := by
  obtain ⟨u1, u2, u3⟩ := h.zo (c := 3) (k := a) (v := r.map (fun p => Y.1 (pq p 0))) (by decide)
  obtain ⟨g1, g2, g3, g4, g5, g6, g7, g8, g9, g10, g11, g12, g13, g14, g15⟩ := id h
  refine ⟨g1, g2, g3, u1, g5, g6, ⟨g7.1, fun b hb => ?_⟩, g8, g9, g10, g11, ⟨fun p hp => ?_, fun i hi => ?_⟩, g13, u2, u3⟩
  · rw [pm_z_sz, z_e_e]
    by_cases e : b = a
    · rw [if_pos ⟨rfl, e⟩, if_pos ⟨rfl, e⟩]
    · rw [if_neg (fun z => e z.2), if_neg (fun z => e z.2)]
      exact g7.2 b hb
  · rw [pm_z_sz, if_neg (fun z => by have := h.cc (by decide) (by decide) z.1; omega)]
    exact g12.1 p hp
  · rw [pm_z_sz, if_neg (fun z => by have := h.cc (by decide) (by decide) z.1; omega)]
    exact g12.2 i hi
/-- the next of the dying -/
theorem pm_CR.dy {k p : Nat} (h : pm_CR Z S Y E) : pm_CR (zs_c Z 3 0 k p) (pm_sz S (Y.1 4) k (some (Y.1 (pq p 0)))) Y E := by
  obtain ⟨u1, u2, u3⟩ := h.zo (c := 4) (k := k) (v := some (Y.1 (pq p 0))) (by decide)
  obtain ⟨g1, g2, g3, g4, g5, g6, g7, g8, g9, g10, g11, g12, g13, g14, g15⟩ := id h
  refine ⟨g1, g2, g3, u1, g5, g6, ⟨g7.1, fun b hb => ?_⟩, g8, g9, fun q hq => ?_, g11, ⟨fun q hq => ?_, fun i hi => ?_⟩, g13, u2, u3⟩
  · rw [pm_z_sz, if_neg (fun z => by have := h.cc (by decide) (by decide) z.1; omega)]
    exact g7.2 b hb
  · obtain ⟨a, b, c⟩ := g10 q hq
    exact ⟨fun i hi => by rw [z_c_c, if_neg (fun z => by omega)]; exact a i hi, fun i hi => by rw [z_c_c, if_neg (fun z => by omega)]; exact b i hi, fun i hi => by rw [z_c_c, if_neg (fun z => by omega)]; exact c i hi⟩
  · rw [pm_z_sz, if_neg (fun z => by have := h.cc (by decide) (by decide) z.1; omega)]
    exact g12.1 q hq
  · rw [pm_z_sz, z_c_c]
    by_cases e : i = k
    · rw [if_pos ⟨rfl, e⟩, if_pos ⟨rfl, rfl, e⟩]
    · rw [if_neg (fun z => e z.2), if_neg (fun z => e z.2.2)]
      exact g12.2 i hi
/-- the name of a process -/
theorem pm_CR.n0 {p : Nat} {r : Option Nat} (h : pm_CR Z S Y E) (hn : az_a Z 0 ≤ 60) (hp : p < az_a Z 0) : pm_CR (zs_e Z 0 p r) (pm_si S 62 (Y.1 (pq p 0)) (zNm r)) Y E := by
  obtain ⟨g1, g2, g3, g4, g5, g6, g7, g8, g9, g10, g11, g12, g13, g14, g15⟩ := id h
  refine ⟨g1, g2, g3, fun q hq => ?_, fun q hq f' c' i' h' => ?_, fun f' c' i' h' => ?_, ⟨fun q hq => ?_, g7.2⟩, g8, g9, g10, ⟨?_, g11.2⟩, g12, fun q hq => ⟨fun j hj => ((g13 q hq).1 j hj).si (by decide), (g13 q hq).2.si (by decide)⟩, fun q hq => ?_, g15.si (fun d hd => h.out (lv_p hp (by omega)) (pq_lt hp hn (by omega)) hd)⟩
  · obtain ⟨⟨a1, a2, a3, a4, a5, a6⟩, a7⟩ := g4 q hq
    exact ⟨⟨a1, a2, a3, a4, a5, by rw [pm_i_si, if_neg (fun z => by omega)]; exact a6⟩, a7⟩
  · rw [pm_i_si, if_neg (fun z => (tbB_c h').2.2.1 z.1)]
    exact g5 q hq f' c' i' h'
  · rw [pm_i_si, if_neg (fun z => (tbA_c h').2.2.1 z.1)]
    exact g6 f' c' i' h'
  · rw [pm_i_si, z_e_e]
    by_cases e : q = p
    · rw [if_pos ⟨rfl, by rw [e]⟩, if_pos ⟨rfl, e⟩]
    · rw [if_neg (fun z => e (h.pp hq hp (by decide) (by decide) z.2).1), if_neg (fun z => e z.2)]
      exact g7.1 q hq
  · rw [pm_i_si, if_neg (fun z => by omega)]
    exact g11.1
  · obtain ⟨m1, m2, m3, m4, m5, m6⟩ := g14 q hq
    exact ⟨m1, m2, m3, fun k hk => ⟨(m4 k hk).1, (m4 k hk).2.elim (fun w q => ⟨w, q.si (by decide)⟩)⟩, m5, fun k hk => (m6 k hk).si (by decide)⟩
/-- the codes of arrays of numbers that are no term's -/
def xcode (c : Nat) : Prop := c = 1 ∨ c = 6 ∨ c = 7 ∨ c = 8 ∨ c = 10 ∨ ∃ p d, c = pq p d ∧ (d = 7 ∨ d = 8 ∨ d = 9)
theorem xcode_ne {c : Nat} (h : xcode c) : c ≠ 12 ∧ c ≠ 14 ∧ ∀ p d, d < 200 → d ≠ 7 → d ≠ 8 → d ≠ 9 → c ≠ pq p d := by
  unfold xcode at h
  refine ⟨?_, ?_, fun p d h1 h2 h3 h4 => ?_⟩
  · rcases h with h | h | h | h | h | ⟨p, d, h, -⟩ <;> first | omega | (unfold pq at h; omega)
  · rcases h with h | h | h | h | h | ⟨p, d, h, -⟩ <;> first | omega | (unfold pq at h; omega)
  · rcases h with h | h | h | h | h | ⟨q, e, h, he⟩ <;> first | (unfold pq; omega) | (rw [h]; exact pq_ne (by omega) h1 (by omega))
theorem pm_tm.sx {t r a i : Nat} {w : List Int32} {v : Int32} (h : pm_tm S t r w) (hr : r ≠ a) : pm_tm (pm_sx S a i v) t r w := ⟨h.1, h.2.1, h.2.2.1, fun j hj => by rw [pm_x_sx, if_neg (fun z => hr z.1)]; exact h.2.2.2 j hj⟩
/-- an element of an array of numbers -/
theorem pm_CR.xo {c k : Nat} {v : Int32} (h : pm_CR Z S Y E) (hc : xcode c) (hl : lv (az_a Z 0) Y.2.1 c) (h2 : c < 20000) : vT Z (pm_sx S (Y.1 c) k v) Y.1 ∧ vM Z (pm_sx S (Y.1 c) k v) Y.1 Y.2.1 Y.2.2 ∧ vE E (pm_sx S (Y.1 c) k v) Y.1 := by
  obtain ⟨g1, g2, g3, g4, g5, g6, g7, g8, g9, g10, g11, g12, g13, g14, g15⟩ := id h
  obtain ⟨x1, x2, x3⟩ := xcode_ne hc
  refine ⟨fun p hp => ⟨fun j hj => ((g13 p hp).1 j hj).sx (fun z => x3 p (20 + j) (by omega) (by omega) (by omega) (by omega) (g1 _ _ (lv_r hp hj) hl z).symm), (g13 p hp).2.sx (fun z => x3 p 3 (by omega) (by omega) (by omega) (by omega) (g1 _ _ (lv_p hp (by decide)) hl z).symm)⟩, fun p hp => ?_, fun d hd => ?_⟩
  · obtain ⟨m1, m2, m3, m4, m5, m6⟩ := g14 p hp
    exact ⟨m1, m2, m3, fun j hj => ⟨(m4 j hj).1, (m4 j hj).2.elim (fun w q => ⟨w, q.sx (fun z => by have := (m4 j hj).1; exact x3 p (80 + Y.2.2 p j) (by omega) (by omega) (by omega) (by omega) (g1 _ _ (lv_n hp (m4 j hj).1 m2) hl z).symm)⟩)⟩, m5, fun j hj => (m6 j hj).sx (fun z => by have := (m4 j (by omega)).1; exact x3 p (80 + Y.2.2 p j) (by omega) (by omega) (by omega) (by omega) (g1 _ _ (lv_n hp (m4 j (by omega)).1 m2) hl z).symm)⟩
  · obtain ⟨a1, a2, a3, a4, a5, a6, a7, a8⟩ := g15 d hd
    exact ⟨a1, a2, a3, a4, a5, fun j => by rw [pm_x_sx, if_neg (fun z => h.out hl h2 hd z.1)]; exact a6 j, a7, a8⟩
/-- a number of the program -/
theorem pm_CR.pw {k : Nat} {v : Int32} (h : pm_CR Z S Y E) : pm_CR (zs_x Z 0 k v) (pm_sx S (Y.1 1) k v) Y E := by
  obtain ⟨u1, u2, u3⟩ := h.xo (c := 1) (k := k) (v := v) (Or.inl rfl) (lv_c (by decide)) (by decide)
  obtain ⟨g1, g2, g3, g4, g5, g6, g7, g8, g9, g10, g11, g12, g13, g14, g15⟩ := id h
  refine ⟨g1, g2, g3, g4, g5, g6, g7, g8, ⟨fun i hi => ?_, fun i hi hi2 => ?_⟩, fun p hp => ?_, ⟨g11.1, fun i hi => ?_⟩, g12, u1, u2, u3⟩
  · rw [pm_x_sx, z_x_x]
    by_cases e : i = k
    · rw [if_pos ⟨rfl, e⟩, if_pos ⟨rfl, e⟩]
    · rw [if_neg (fun z => e z.2), if_neg (fun z => e z.2)]
      exact g9.1 i hi
  · rw [pm_x_sx, if_neg (fun z => by have := h.cc (by decide) (by decide) z.1; omega), z_x_x, if_neg (fun z => by omega)]
    exact g9.2 i hi hi2
  · obtain ⟨a, b, c⟩ := g10 p hp
    exact ⟨fun i hi => by rw [pm_x_sx, if_neg (fun z => h.pc hp (by decide) (by decide) z.1)]; exact a i hi, fun i hi => by rw [pm_x_sx, if_neg (fun z => h.pc hp (by decide) (by decide) z.1)]; exact b i hi, fun i hi => by rw [pm_x_sx, if_neg (fun z => h.pc hp (by decide) (by decide) z.1)]; exact c i hi⟩
  · rw [pm_x_sx, if_neg (fun z => by have := h.cc (by decide) (by decide) z.1; omega), pm_x_sx, if_neg (fun z => by have := h.cc (by decide) (by decide) z.1; omega), pm_x_sx, if_neg (fun z => by have := h.cc (by decide) (by decide) z.1; omega)]
    exact g11.2 i hi
/-- a number of a trail -/
theorem pm_CR.tr {p j k v : Nat} (h : pm_CR Z S Y E) (hn : az_a Z 0 ≤ 60) (hp : p < az_a Z 0) (hj : j < 3) : pm_CR (zs_c Z j p k v) (pm_sx S (Y.1 (pq p (7 + j))) k (nI v)) Y E := by
  obtain ⟨u1, u2, u3⟩ := h.xo (c := pq p (7 + j)) (k := k) (v := nI v) (Or.inr (Or.inr (Or.inr (Or.inr (Or.inr ⟨p, 7 + j, rfl, by omega⟩))))) (lv_p hp (by omega)) (pq_lt hp hn (by omega))
  obtain ⟨g1, g2, g3, g4, g5, g6, g7, g8, g9, g10, g11, g12, g13, g14, g15⟩ := id h
  have key : ∀ q i l, q < az_a Z 0 → i < 3 → pm_x S (Y.1 (pq q (7 + i))) l = nI (az_c Z i q l) → pm_x (pm_sx S (Y.1 (pq p (7 + j))) k (nI v)) (Y.1 (pq q (7 + i))) l = nI (az_c (zs_c Z j p k v) i q l) := by
    intro q i l hq hi e
    rw [pm_x_sx, z_c_c]
    by_cases e1 : i = j ∧ q = p ∧ l = k
    · obtain ⟨e1, e2, e3⟩ := e1
      rw [if_pos ⟨by rw [e1, e2], e3⟩, if_pos ⟨e1, e2, e3⟩]
    · rw [if_neg (fun z => e1 (by have := h.pp hq hp (by omega) (by omega) z.1; exact ⟨by omega, this.1, z.2⟩)), if_neg e1]
      exact e
  refine ⟨g1, g2, g3, g4, g5, g6, g7, g8, ⟨fun i hi => ?_, fun i hi hi2 => ?_⟩, fun q hq => ?_, ⟨g11.1, fun i hi => ?_⟩, ⟨g12.1, fun i hi => ?_⟩, u1, u2, u3⟩
  · rw [pm_x_sx, if_neg (fun z => h.pc hp (by omega) (by decide) z.1.symm)]
    exact g9.1 i hi
  · rw [pm_x_sx, if_neg (fun z => h.pc hp (by omega) (by decide) z.1.symm)]
    exact g9.2 i hi hi2
  · obtain ⟨a, b, c⟩ := g10 q hq
    exact ⟨fun i hi => key q 0 i hq (by decide) (a i hi), fun i hi => key q 1 i hq (by decide) (b i hi), fun i hi => key q 2 i hq (by decide) (c i hi)⟩
  · rw [pm_x_sx, if_neg (fun z => h.pc hp (by omega) (by decide) z.1.symm), pm_x_sx, if_neg (fun z => h.pc hp (by omega) (by decide) z.1.symm), pm_x_sx, if_neg (fun z => h.pc hp (by omega) (by decide) z.1.symm)]
    exact g11.2 i hi
  · rw [z_c_c, if_neg (fun z => by omega)]
    exact g12.2 i hi
/-- the links of a process: its bits are as said -/
theorem pm_CR.l1 {p : Nat} {v : Int64} {g : Nat → Bool} (h : pm_CR Z S Y E) (hn : az_a Z 0 ≤ 60) (hp : p < az_a Z 0) (hZ : ∃ W : az, W = Z) (hv : ∀ i, i < 64 → pm_lb v i = (decide (0 < i) && g (i - 1))) (Z' : az) (e1 : az_a Z' = az_a Z) (e2 : az_b Z' = az_b Z) (e3 : az_c Z' = az_c Z) (e4 : az_e Z' = az_e Z) (e5 : az_t Z' = az_t Z) (e6 : az_x Z' = az_x Z) (e7 : az_w Z' = az_w Z) (hf : ∀ q r, q < az_a Z 0 → r < 63 → az_f Z' q r = if q = p then g r else az_f Z q r) : pm_CR Z' (pm_sj S 64 (Y.1 (pq p 0)) v) Y E := by
  obtain ⟨g1, g2, g3, g4, g5, g6, g7, g8, g9, g10, g11, g12, g13, g14, g15⟩ := id h
  unfold pm_CR vB vA vN vX vK vW vP vT vM
  rw [e1, e2, e3, e4, e5, e6, e7]
  refine ⟨g1, g2, g3, g4, g5, g6, g7, fun q hq => ?_, g9, g10, g11, g12, g13, g14, fun d hd => ?_⟩
  · rw [e1] at hq
    obtain ⟨a, b⟩ := g8 q hq
    refine ⟨by rw [pm_j_sj, if_neg (fun z => by omega), e4]; exact a, fun i hi => ?_⟩
    by_cases e : q = p
    · rw [pm_j_sj, if_pos ⟨rfl, by rw [e]⟩, hv i hi]
      by_cases e2 : 0 < i
      · rw [hf q (i - 1) hq (by omega), if_pos e]
      · rw [decide_eq_false e2, Bool.false_and, Bool.false_and]
    · rw [pm_j_sj, if_neg (fun z => e (h.pp hq hp (by decide) (by decide) z.2).1), b i hi]
      by_cases e2 : 0 < i
      · rw [hf q (i - 1) hq (by omega), if_neg e]
      · rw [decide_eq_false e2, Bool.false_and, Bool.false_and]
  · obtain ⟨a1, a2, a3, a4, a5⟩ := g15 d hd
    exact ⟨a1, a2, a3, fun j => by rw [pm_j_sj, if_neg (fun z => h.out (lv_p hp (by decide)) (pq_lt hp hn (by omega)) hd z.2)]; exact a4 j, a5⟩
end CRU
