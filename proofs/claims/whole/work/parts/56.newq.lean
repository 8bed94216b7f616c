/-! a new process: the relation -/
theorem pm_lb_0 (i : Nat) : pm_lb 0 i = false := by unfold pm_lb; exact BitVec.getLsbD_zero
def yNew (Y : pm_Y) (n : Nat) (nd : Nat → Nat) : pm_Y := ((fun c => if pq n 0 ≤ c ∧ c < pq n 28 then nd (c - pq n 0) else Y.1 c), (fun q => if q = n then 0 else Y.2.1 q), Y.2.2)
theorem yNew_m {Y : pm_Y} {n q : Nat} {nd : Nat → Nat} (h : q < n) : (yNew Y n nd).2.1 q = Y.2.1 q := if_neg (by omega)
theorem lv_new {Y : pm_Y} {n c : Nat} {nd : Nat → Nat} : lv n (yNew Y n nd).2.1 c ↔ lv n Y.2.1 c := by
  constructor
  · intro h
    rcases h with h | ⟨q, d, hq, e, hd, hd2⟩ | h
    · exact Or.inl h
    · rw [yNew_m hq] at hd; exact Or.inr (Or.inl ⟨q, d, hq, e, hd, hd2⟩)
    · exact Or.inr (Or.inr h)
  · intro h
    rcases h with h | ⟨q, d, hq, e, hd, hd2⟩ | h
    · exact Or.inl h
    · exact Or.inr (Or.inl ⟨q, d, hq, e, by rw [yNew_m hq]; exact hd, hd2⟩)
    · exact Or.inr (Or.inr h)
theorem yNew_o {Y : pm_Y} {n c : Nat} {nd : Nat → Nat} (hn : n < 60) (h : lv n Y.2.1 c) : (yNew Y n nd).1 c = Y.1 c := by
  refine if_neg (fun z => ?_)
  unfold pq at z
  rcases h with h | ⟨q, d, hq, e, hd, hd2⟩ | h
  · omega
  · unfold pq at e; omega
  · omega
theorem yNew_n {Y : pm_Y} {n d : Nat} {nd : Nat → Nat} (hd : d < 28) : (yNew Y n nd).1 (pq n d) = nd d := by
  show (if pq n 0 ≤ pq n d ∧ pq n d < pq n 28 then nd (pq n d - pq n 0) else _) = _
  rw [if_pos (by unfold pq; omega), show pq n d - pq n 0 = d from by unfold pq; omega]
theorem yNew_le {Y : pm_Y} {n : Nat} {nd : Nat → Nat} (hn : n < 60) : yLe n Y (yNew Y n nd) := ⟨fun c hc => yNew_o hn hc, fun q hq => by rw [yNew_m hq]; exact Nat.le_refl _⟩
theorem lv_new1 {Y : pm_Y} {n c : Nat} {nd : Nat → Nat} (h : lv (n + 1) (yNew Y n nd).2.1 c) : (∃ d, c = pq n d ∧ (d < 18 ∨ (20 ≤ d ∧ d < 28))) ∨ lv n (yNew Y n nd).2.1 c := by
  rcases h with h | ⟨q, d, hq, e, hd, hd2⟩ | h
  · exact Or.inr (Or.inl h)
  · by_cases z : q = n
    · rw [z, show (yNew Y n nd).2.1 n = 0 from if_pos rfl] at hd
      exact Or.inl ⟨d, by rw [e, z], by omega⟩
    · exact Or.inr (Or.inr (Or.inl ⟨q, d, by omega, e, hd, hd2⟩))
  · exact Or.inr (Or.inr (Or.inr h))
section NWP
variable {Z : az} {S S2 E : pm_S} {Y : pm_Y} {s : Nat}
/-- objects made elsewhere -/
theorem pm_CR.grow {nd : Nat → Nat} (h : pm_CR Z S Y E) (hI : zI s Z) (hn : az_a Z 0 < 60) (hfr : ∀ b, pm_k S b ≠ 0 → pm_e8 S S2 b) : pm_CR Z S2 (yNew Y (az_a Z 0) nd) E := by
  obtain ⟨g1, g2, g3, g4, g5, g6, g7, g8, g9, g10, g11, g12, g13, g14, g15⟩ := id h
  have heq : ∀ c, lv (az_a Z 0) Y.2.1 c → (yNew Y (az_a Z 0) nd).1 c = Y.1 c := fun c hc => yNew_o hn hc
  have hS : ∀ c, lv (az_a Z 0) Y.2.1 c → pm_e8 S S2 (Y.1 c) := fun c hc => hfr _ (g2 c hc)
  have zz : ∀ c, lv (az_a Z 0) Y.2.1 c → ∀ i, pm_z S2 (Y.1 c) i = pm_z S (Y.1 c) i := fun c hc i => (hS c hc).2.2.2.2.2.2.2 i
  obtain ⟨k3, k4, k5, k6, k8, k9, k10, k11, k13, k15⟩ := h.move heq (fun c hc => e8_7 (hS c hc)) (fun q hq i => zz _ (lv_p hq (by omega)) i) (fun c hc i => zz c (lv_pc hc) i)
  refine ⟨fun c d hc hd e => ?_, fun c hc => ?_, k3, k4, k5, k6, ⟨fun q hq => ?_, fun a ha => ?_⟩, k8, k9, k10, k11, ⟨fun q hq => ?_, fun i hi => ?_⟩, k13, fun q hq => ?_, k15⟩
  · rw [lv_new] at hc hd
    rw [heq c hc, heq d hd] at e
    exact g1 c d hc hd e
  · rw [lv_new] at hc
    rw [heq c hc, (hS c hc).1]
    exact g2 c hc
  · rw [heq _ (lv_p hq (by omega)), (hS _ (lv_p hq (by omega))).2.2.1]
    exact g7.1 q hq
  · rw [heq 3 (lv_c (by omega)), zz 3 (lv_c (by omega)), g7.2 a ha]
    cases hc : az_e Z 2 a with
    | none => rfl
    | some q =>
      have hq := (hI.2.2.2.2.2.1.2 a q hc).2.1
      show some (Y.1 (pq q 0)) = some ((yNew Y (az_a Z 0) nd).1 (pq q 0))
      rw [heq _ (lv_p hq (by omega))]
  · rw [heq 2 (lv_c (by omega)), heq _ (lv_p hq (by omega)), zz 2 (lv_c (by omega))]
    exact g12.1 q hq
  · rw [heq 4 (lv_c (by omega)), zz 4 (lv_c (by omega)), g12.2 i hi, heq _ (lv_p (hI.2.2.2.2.1.2.2 i hi).1 (by omega))]
  · obtain ⟨m1, m2, m3, m4, m5, m6⟩ := g14 q hq
    have fm : ∀ d, d < Y.2.1 q → (yNew Y (az_a Z 0) nd).1 (pq q (30 + d)) = Y.1 (pq q (30 + d)) ∧ (yNew Y (az_a Z 0) nd).1 (pq q (80 + d)) = Y.1 (pq q (80 + d)) := fun d hd => ⟨heq _ (lv_m hq hd m2), heq _ (lv_n hq hd m2)⟩
    have tmv : ∀ d w, d < Y.2.1 q → pm_tm S (Y.1 (pq q (30 + d))) (Y.1 (pq q (80 + d))) w → pm_tm S2 ((yNew Y (az_a Z 0) nd).1 (pq q (30 + d))) ((yNew Y (az_a Z 0) nd).1 (pq q (80 + d))) w := fun d w hd hw => by
      rw [(fm d hd).1, (fm d hd).2]
      exact hw.mv (e8_7 (hS _ (lv_m hq hd m2))) (e8_7 (hS _ (lv_n hq hd m2)))
    rw [yNew_m hq]
    refine ⟨m1, m2, fun k hk => ?_, fun k hk => ?_, m5, fun k hk => ?_⟩
    · rw [heq _ (lv_p hq (by omega)), zz _ (lv_p hq (by omega)), m3 k hk]
      by_cases e2 : k < Y.2.1 q
      · rw [if_pos e2, if_pos e2]
        show _ = some ((yNew Y (az_a Z 0) nd).1 (pq q (30 + Y.2.2 q k)))
        rw [(fm _ (m4 k e2).1).1]
      · rw [if_neg e2, if_neg e2]
    · obtain ⟨a, w, hw⟩ := m4 k hk
      exact ⟨a, w, tmv _ w a hw⟩
    · exact tmv _ _ (m4 k (by omega)).1 (m6 k hk)
/-- the place of the next process -/
theorem pm_CR.pz {r : Option Nat} (h : pm_CR Z S Y E) : pm_CR Z (pm_sz S (Y.1 2) (az_a Z 0) r) Y E := by
  obtain ⟨u1, u2, u3⟩ := h.zo (c := 2) (k := az_a Z 0) (v := r) (by decide)
  obtain ⟨g1, g2, g3, g4, g5, g6, g7, g8, g9, g10, g11, g12, g13, g14, g15⟩ := id h
  refine ⟨g1, g2, g3, u1, g5, g6, ⟨g7.1, fun b hb => ?_⟩, g8, g9, g10, g11, ⟨fun q hq => ?_, fun i hi => ?_⟩, g13, u2, u3⟩
  · rw [pm_z_sz, if_neg (fun z => by have := h.cc (by decide) (by decide) z.1; omega)]
    exact g7.2 b hb
  · rw [pm_z_sz, if_neg (fun z => by omega)]
    exact g12.1 q hq
  · rw [pm_z_sz, if_neg (fun z => by have := h.cc (by decide) (by decide) z.1; omega)]
    exact g12.2 i hi
/-- one process more -/
theorem pm_CR.ext {nd : Nat → Nat} {pr : Nat} (h : pm_CR Z S (yNew Y (az_a Z 0) nd) E) (hI : zI s Z) (hn : az_a Z 0 < 60)
    (hin : ∀ d d2, (d < 18 ∨ (20 ≤ d ∧ d < 28)) → (d2 < 18 ∨ (20 ≤ d2 ∧ d2 < 28)) → nd d = nd d2 → d = d2) (hne : ∀ d c, (d < 18 ∨ (20 ≤ d ∧ d < 28)) → lv (az_a Z 0) Y.2.1 c → nd d ≠ Y.1 c) (hk : ∀ d, (d < 18 ∨ (20 ≤ d ∧ d < 28)) → pm_k S (nd d) ≠ 0)
    (hV : nV S (nd 0) (nd 1) (nd 2) (nd 4) (nd 6) (nI (az_a Z 0 + 1)) (nI pr)) (hP : nP S (nd 1) (nd 2) (nd 3) (nd 4) (nd 5) (nd 6) (nd 7) (nd 8) (nd 9)) (hR : ∀ j, j < 8 → pm_z S (nd 1) j = some (nd (10 + j)) ∧ pm_tm S (nd (10 + j)) (nd (20 + j)) [0, 0]) (hz : pm_z S (Y.1 2) (az_a Z 0) = some (nd 0)) :
    pm_CR (zs_n Z 0 pr) (pm_si S 308 (Y.1 0) (nI (az_a Z 0 + 1))) (yNew Y (az_a Z 0) nd) E := by
  have e0 : (yNew Y (az_a Z 0) nd).1 0 = Y.1 0 := yNew_o hn (lv_c (by omega))
  have e2 : (yNew Y (az_a Z 0) nd).1 2 = Y.1 2 := yNew_o hn (lv_c (by omega))
  have hlk : ∀ c, az_f Z (az_a Z 0) c = false := fun c => by
    cases q : az_f Z (az_a Z 0) c
    · rfl
    · have := (hI.2.2.2.2.2.2.1 _ _ q).1; omega
  rw [← e0]
  rw [← e2] at hz
  have hn1 : ∀ d c, (d < 18 ∨ (20 ≤ d ∧ d < 28)) → lv (az_a Z 0) Y.2.1 c → nd d ≠ (yNew Y (az_a Z 0) nd).1 c := fun d c h1 h2 => by rw [yNew_o hn h2]; exact hne d c h1 h2
  have en : ∀ d, d < 28 → (yNew Y (az_a Z 0) nd).1 (pq (az_a Z 0) d) = nd d := fun d hd => yNew_n hd
  have em : (yNew Y (az_a Z 0) nd).2.1 (az_a Z 0) = 0 := if_pos rfl
  have l1 : ∀ c, lv (az_a Z 0 + 1) (yNew Y (az_a Z 0) nd).2.1 c → (∃ d, c = pq (az_a Z 0) d ∧ (d < 18 ∨ (20 ≤ d ∧ d < 28))) ∨ lv (az_a Z 0) (yNew Y (az_a Z 0) nd).2.1 c := fun c hc => lv_new1 hc
  have l2 : ∀ c, lv (az_a Z 0) (yNew Y (az_a Z 0) nd).2.1 c ↔ lv (az_a Z 0) Y.2.1 c := fun c => lv_new
  generalize yNew Y (az_a Z 0) nd = Y2 at h e0 e2 hz hn1 en em l1 l2 ⊢
  obtain ⟨g1, g2, g3, g4, g5, g6, g7, g8, g9, g10, g11, g12, g13, g14, g15⟩ := id h
  have hb : ∀ q i, q < az_a Z 0 → az_b (zs_n Z 0 pr) i q = az_b Z i q := fun q i hq => by rw [z_b_n, if_neg (by omega)]
  have hb2 : ∀ i, i ≠ 0 → az_b (zs_n Z 0 pr) i (az_a Z 0) = 0 := fun i hi => by rw [z_b_n, if_pos rfl, if_neg hi]; split <;> rfl
  have ht : ∀ q i k, q < az_a Z 0 → az_t (zs_n Z 0 pr) i q k = az_t Z i q k := fun q i k hq => by rw [z_t_n, if_neg (fun z => by omega)]
  have he : ∀ q i, q < az_a Z 0 → az_e (zs_n Z 0 pr) i q = az_e Z i q := fun q i hq => by rw [z_e_n, if_neg (fun z => by omega)]
  obtain ⟨v1, v2, v3, v4, v5, v6, v7, v8, v9, v10, v11, v12, v13, v14, v15, v16, v17⟩ := hV
  obtain ⟨⟨p1, p2⟩, p3, ⟨p4, p5, p6, p7⟩, p8, p9, p10⟩ := hP
  have c2 : ∀ p, p < az_a Z 0 + 1 → p < az_a Z 0 ∨ p = az_a Z 0 := fun p hp => by omega
  have si : ∀ g b, g ≠ 308 → pm_i (pm_si S 308 (Y2.1 0) (nI (az_a Z 0 + 1))) g b = pm_i S g b := fun g b hg => by rw [pm_i_si, if_neg (fun z => hg z.1)]
  refine ⟨fun c d hc hd e => ?_, fun c hc => ?_, g3, fun p hp => ?_, fun p hp f c i hf => ?_, fun f c i hf => ?_, ⟨fun p hp => ?_, fun a ha => ?_⟩, fun p hp => ?_, g9, fun p hp => ?_, g11, ⟨fun p hp => ?_, g12.2⟩, fun p hp => ?_, fun p hp => ?_, ?_⟩
  · rcases l1 c hc with ⟨i, e1, hi⟩ | h1 <;> rcases l1 d hd with ⟨j, e3, hj⟩ | h2
    · rw [e1, e3, en i (by omega), en j (by omega)] at e
      rw [e1, e3, hin i j hi hj e]
    · rw [e1, en i (by omega)] at e
      exact absurd e (hn1 i d hi ((l2 d).mp h2))
    · rw [e3, en j (by omega)] at e
      exact absurd e.symm (hn1 j c hj ((l2 c).mp h1))
    · exact g1 c d h1 h2 e
  · rcases l1 c hc with ⟨i, e1, hi⟩ | h1
    · rw [e1, en i (by omega)]; exact hk i hi
    · exact g2 c h1
  · rcases c2 p hp with hq | rfl
    · obtain ⟨⟨a1, a2, a3, a4, a5, a6⟩, a7⟩ := g4 p hq
      exact ⟨⟨a1, a2, a3, a4, a5, (si _ _ (by decide)).trans a6⟩, a7⟩
    · unfold sP
      rw [en 0 (by omega), en 1 (by omega), en 2 (by omega), en 4 (by omega), en 5 (by omega), en 6 (by omega), en 7 (by omega), en 8 (by omega), en 9 (by omega)]
      exact ⟨⟨v1, v2, v3, v4, v5, (si _ _ (by decide)).trans v6⟩, ⟨p1, p2, fun j hj => by rw [en (10 + j) (by omega)]; exact (hR j hj).1⟩, p4, p8⟩
  · have hf3 : f ≠ 308 := fun z => by rw [z] at hf; cases hf
    rw [si _ _ hf3]
    rcases c2 p hp with hq | rfl
    · rw [hb p i hq]; exact g5 p hq f c i hf
    · rw [en c (by have := (tbB_c hf).1; omega)]
      have e9 : nI 0 = (0 : Int32) := rfl
      have e8 := z_b_n Z 0 pr 0 (az_a Z 0)
      rw [if_pos rfl, if_pos rfl] at e8
      unfold tbB at hf
      split at hf <;> first | (cases hf; done) | (cases hf; first | (rw [e8]; exact v7) | (rw [hb2 _ (by decide), e9]; assumption))
  · by_cases hf3 : f = 308
    · subst hf3; cases hf
      rw [pm_i_si, if_pos ⟨rfl, rfl⟩]; rfl
    · rw [si _ _ hf3, z_a_n, if_neg (fun z => by rw [z] at hf; unfold tbA at hf; split at hf <;> first | (cases hf; done) | (cases hf; exact hf3 rfl))]
      exact g6 f c i hf
  · rw [si _ _ (by decide)]
    rcases c2 p hp with hq | rfl
    · rw [he p 0 hq]; exact g7.1 p hq
    · rw [en 0 (by omega), z_e_n, if_pos ⟨Or.inl rfl, rfl⟩]; exact v13
  · rw [z_e_n, if_neg (fun z => by omega)]; exact g7.2 a ha
  · rcases c2 p hp with hq | rfl
    · rw [he p 1 hq]; exact g8 p hq
    · rw [en 0 (by omega), z_e_n, if_pos ⟨Or.inr rfl, rfl⟩]
      refine ⟨v16, fun i hi => ?_⟩
      show pm_lb (pm_j S 64 (nd 0)) i = (decide (0 < i) && az_f Z (az_a Z 0) (i - 1))
      rw [v17, hlk, Bool.and_false]
      exact pm_lb_0 i
  · rcases c2 p hp with hq | rfl
    · rw [hb p 7 hq, hb p 8 hq]; exact g10 p hq
    · rw [hb2 7 (by decide), hb2 8 (by decide)]
      exact ⟨fun i hi => absurd hi (by omega), fun i hi => absurd hi (by omega), fun i hi => absurd hi (by omega)⟩
  · rcases c2 p hp with hq | rfl
    · exact g12.1 p hq
    · rw [en 0 (by omega)]; exact hz
  · rcases c2 p hp with hq | rfl
    · rw [ht p 1 0 hq]
      exact ⟨fun j hj => by rw [ht p 0 j hq]; exact ((g13 p hq).1 j hj).si (by decide), (g13 p hq).2.si (by decide)⟩
    · refine ⟨fun j hj => ?_, ?_⟩
      · rw [en (10 + j) (by omega), en (20 + j) (by omega), z_t_n, if_pos ⟨rfl, Or.inl ⟨rfl, hj⟩⟩]; exact ((hR j hj).2).si (by decide)
      · rw [en 2 (by omega), en 3 (by omega), z_t_n, if_pos ⟨rfl, Or.inr ⟨rfl, rfl⟩⟩]; exact p3.si (by decide)
  · rcases c2 p hp with hq | rfl
    · obtain ⟨m1, m2, m3, m4, m5, m6⟩ := g14 p hq
      rw [hb p 9 hq]
      refine ⟨m1, m2, m3, fun k hk => ?_, m5, fun k hk => ?_⟩
      · obtain ⟨a, w, hw⟩ := m4 k hk
        exact ⟨a, w, hw.si (by decide)⟩
      · rw [ht p 2 k hq]; exact (m6 k hk).si (by decide)
    · rw [hb2 9 (by decide), em, en 5 (by omega)]
      exact ⟨Nat.le_refl _, by omega, fun k hk => by rw [if_neg (by omega)]; exact p7 k, fun k hk => absurd hk (by omega), fun k l hk => absurd hk (by omega), fun k hk => absurd hk (by omega)⟩
  · exact g15.si (fun d hd => h.out (lv_c (by omega)) (by omega) hd)
/-- addresses of a new process's objects by their codes -/
def nda (v a t r m k l b c e : Nat) (tt rr : Nat → Nat) : Nat → Nat
  | 0 => v | 1 => a | 2 => t | 3 => r | 4 => m | 5 => k | 6 => l | 7 => b | 8 => c | 9 => e
  | d => if d < 18 then tt (d - 10) else rr (d - 20)
theorem nd_t {v a t r m k l b c e : Nat} {tt rr : Nat → Nat} {j : Nat} (hj : j < 8) : nda v a t r m k l b c e tt rr (10 + j) = tt j := by
  match j, hj with
  | 0, _ => rfl | 1, _ => rfl | 2, _ => rfl | 3, _ => rfl | 4, _ => rfl | 5, _ => rfl | 6, _ => rfl | 7, _ => rfl
theorem nd_r {v a t r m k l b c e : Nat} {tt rr : Nat → Nat} {j : Nat} (hj : j < 8) : nda v a t r m k l b c e tt rr (20 + j) = rr j := by
  match j, hj with
  | 0, _ => rfl | 1, _ => rfl | 2, _ => rfl | 3, _ => rfl | 4, _ => rfl | 5, _ => rfl | 6, _ => rfl | 7, _ => rfl
theorem nd_cs {d : Nat} (h : d < 18 ∨ (20 ≤ d ∧ d < 28)) : d = 0 ∨ d = 1 ∨ d = 2 ∨ d = 3 ∨ d = 4 ∨ d = 5 ∨ d = 6 ∨ d = 7 ∨ d = 8 ∨ d = 9 ∨ (∃ j, j < 8 ∧ d = 10 + j) ∨ ∃ j, j < 8 ∧ d = 20 + j := by
  by_cases h1 : d < 10
  · omega
  · by_cases h2 : d < 18
    · exact Or.inr (Or.inr (Or.inr (Or.inr (Or.inr (Or.inr (Or.inr (Or.inr (Or.inr (Or.inr (Or.inl ⟨d - 10, by omega, by omega⟩))))))))))
    · exact Or.inr (Or.inr (Or.inr (Or.inr (Or.inr (Or.inr (Or.inr (Or.inr (Or.inr (Or.inr (Or.inr ⟨d - 20, by omega, by omega⟩))))))))))
end NWP
section NWR
variable {Z : az} {S S2 E : pm_S} {Y : pm_Y} {s : Nat}
theorem pm_CX.newproc {v pr : Nat} (hx : pm_CX Z S Y E) (hI : zI s Z) (hn : az_a Z 0 < 60) (fv : pm_k S v = 0) (h11 : ∃ a t r m k l b c e : Nat, ∃ tt rr : Nat → Nat, nV S2 v a t m l (nI (az_a Z 0 + 1)) (nI pr) ∧ nP S2 a t r m k l b c e ∧ (∀ j, j < 8 → pm_z S2 a j = some (tt j) ∧ pm_tm S2 (tt j) (rr j) [0, 0] ∧ pm_k (pm_nw S v 2 0) (tt j) = 0 ∧ pm_k (pm_nw S v 2 0) (rr j) = 0) ∧ (∀ b, pm_k (pm_nw S v 2 0) b ≠ 0 → b ≠ v → pm_e8 (pm_nw S v 2 0) S2 b) ∧ (pm_k (pm_nw S v 2 0) a = 0 ∧ pm_k (pm_nw S v 2 0) t = 0 ∧ pm_k (pm_nw S v 2 0) r = 0 ∧ pm_k (pm_nw S v 2 0) m = 0 ∧ pm_k (pm_nw S v 2 0) k = 0 ∧ pm_k (pm_nw S v 2 0) l = 0 ∧ pm_k (pm_nw S v 2 0) b = 0 ∧ pm_k (pm_nw S v 2 0) c = 0 ∧ pm_k (pm_nw S v 2 0) e = 0) ∧ (a ≠ k ∧ b ≠ c ∧ b ≠ e ∧ c ≠ e ∧ r ≠ b ∧ r ≠ c ∧ r ≠ e) ∧ (∀ j, j < 8 → tt j ≠ t ∧ rr j ≠ r ∧ rr j ≠ b ∧ rr j ≠ c ∧ rr j ≠ e) ∧ ∀ i j, i < 8 → j < 8 → (tt i = tt j → i = j) ∧ (rr i = rr j → i = j)) : ∃ Y2, yLe (az_a Z 0) Y Y2 ∧ Y2.1 (pq (az_a Z 0) 0) = v ∧ pm_k S2 v = 2 ∧ pm_CR Z S2 Y2 E ∧ pm_CR (zs_n Z 0 pr) (pm_si (pm_sz S2 (Y2.1 2) (az_a Z 0) (some v)) 308 (Y2.1 0) (nI (az_a Z 0 + 1))) Y2 E ∧ ∀ p, p < az_a Z 0 + 1 → Y2.2.1 p = az_b (zs_n Z 0 pr) 12 p := by
  obtain ⟨h, hmk⟩ := hx
  obtain ⟨a, t, r, m, k, l, b, c, e, tt, rr, hV, hP, hz, hfr, ⟨f1, f2, f3, f4, f5, f6, f7, f8, f9⟩, ⟨u1, u2, u3, u4, u5, u6, u7⟩, d1, d2⟩ := h11
  have fr : ∀ x, pm_k (pm_nw S v 2 0) x = 0 → pm_k S x = 0 := fun x hx => by
    rw [pm_k_nw] at hx
    by_cases q : x = v
    · rw [if_pos q] at hx; cases hx
    · rw [if_neg q] at hx; exact hx
  have F : ∀ b, pm_k S b ≠ 0 → pm_e8 S S2 b := fun b hb => by
    have nb : b ≠ v := fun z => hb (by rw [z]; exact fv)
    exact e8_tr (e8_nw nb) (hfr b (by rw [pm_k_nw, if_neg nb]; exact hb) nb)
  have G := h.grow (nd := nda v a t r m k l b c e tt rr) hI hn F
  have K0 := hV.1
  have K1 := hP.1.1
  have K2 := hP.2.1.1.1
  have K3 := hP.2.1.1.2.2.1
  have K4 := hP.2.2.1.1.1
  have K5 := hP.2.2.1.1.2.2.1
  have K6 := hP.2.2.2.1.1
  have K7 := hP.2.2.2.1.2.2.2.2.1
  have K8 := hP.2.2.2.1.2.2.2.2.2.2.1
  have K9 := hP.2.2.2.1.2.2.2.2.2.2.2.2.1
  have KT : ∀ j, j < 8 → pm_k S2 (tt j) = 4 := fun j hj => (hz j hj).2.1.1.1
  have KR : ∀ j, j < 8 → pm_k S2 (rr j) = 9 := fun j hj => (hz j hj).2.1.1.2.2.1
  have e2 : (yNew Y (az_a Z 0) (nda v a t r m k l b c e tt rr)).1 2 = Y.1 2 := yNew_o hn (lv_c (by omega))
  have e0 : (yNew Y (az_a Z 0) (nda v a t r m k l b c e tt rr)).1 0 = Y.1 0 := yNew_o hn (lv_c (by omega))
  have G2 := G.pz (r := some v)
  rw [e2] at G2
  have kM := G.2.2.1.2.2.1.1
  rw [e2] at kM
  have ee : ∀ x n, pm_k S2 x = n → n ≠ 12 → pm_e8 S2 (pm_sz S2 (Y.1 2) (az_a Z 0) (some v)) x := fun x n hx hn => e8_sz (fun z => hn (by rw [← hx, z]; exact kM))
  have hin : ∀ i j, (i < 18 ∨ (20 ≤ i ∧ i < 28)) → (j < 18 ∨ (20 ≤ j ∧ j < 28)) → nda v a t r m k l b c e tt rr i = nda v a t r m k l b c e tt rr j → i = j := by
    intro i j hi hj he
    rcases nd_cs hi with rfl | rfl | rfl | rfl | rfl | rfl | rfl | rfl | rfl | rfl | ⟨j1, hj1, rfl⟩ | ⟨j1, hj1, rfl⟩ <;> rcases nd_cs hj with rfl | rfl | rfl | rfl | rfl | rfl | rfl | rfl | rfl | rfl | ⟨j2, hj2, rfl⟩ | ⟨j2, hj2, rfl⟩
    · exact rfl
    · exact absurd (by rw [← K0, ← K1]; exact congrArg (pm_k S2) he : (2 : Nat) = 13) (by decide)
    · exact absurd (by rw [← K0, ← K2]; exact congrArg (pm_k S2) he : (2 : Nat) = 4) (by decide)
    · exact absurd (by rw [← K0, ← K3]; exact congrArg (pm_k S2) he : (2 : Nat) = 9) (by decide)
    · exact absurd (by rw [← K0, ← K4]; exact congrArg (pm_k S2) he : (2 : Nat) = 1) (by decide)
    · exact absurd (by rw [← K0, ← K5]; exact congrArg (pm_k S2) he : (2 : Nat) = 13) (by decide)
    · exact absurd (by rw [← K0, ← K6]; exact congrArg (pm_k S2) he : (2 : Nat) = 5) (by decide)
    · exact absurd (by rw [← K0, ← K7]; exact congrArg (pm_k S2) he : (2 : Nat) = 9) (by decide)
    · exact absurd (by rw [← K0, ← K8]; exact congrArg (pm_k S2) he : (2 : Nat) = 9) (by decide)
    · exact absurd (by rw [← K0, ← K9]; exact congrArg (pm_k S2) he : (2 : Nat) = 9) (by decide)
    · rw [nd_t hj2] at he; exact absurd (by rw [← K0, ← (KT j2 hj2)]; exact congrArg (pm_k S2) he : (2 : Nat) = 4) (by decide)
    · rw [nd_r hj2] at he; exact absurd (by rw [← K0, ← (KR j2 hj2)]; exact congrArg (pm_k S2) he : (2 : Nat) = 9) (by decide)
    · exact absurd (by rw [← K1, ← K0]; exact congrArg (pm_k S2) he : (13 : Nat) = 2) (by decide)
    · exact rfl
    · exact absurd (by rw [← K1, ← K2]; exact congrArg (pm_k S2) he : (13 : Nat) = 4) (by decide)
    · exact absurd (by rw [← K1, ← K3]; exact congrArg (pm_k S2) he : (13 : Nat) = 9) (by decide)
    · exact absurd (by rw [← K1, ← K4]; exact congrArg (pm_k S2) he : (13 : Nat) = 1) (by decide)
    · exact absurd he u1
    · exact absurd (by rw [← K1, ← K6]; exact congrArg (pm_k S2) he : (13 : Nat) = 5) (by decide)
    · exact absurd (by rw [← K1, ← K7]; exact congrArg (pm_k S2) he : (13 : Nat) = 9) (by decide)
    · exact absurd (by rw [← K1, ← K8]; exact congrArg (pm_k S2) he : (13 : Nat) = 9) (by decide)
    · exact absurd (by rw [← K1, ← K9]; exact congrArg (pm_k S2) he : (13 : Nat) = 9) (by decide)
    · rw [nd_t hj2] at he; exact absurd (by rw [← K1, ← (KT j2 hj2)]; exact congrArg (pm_k S2) he : (13 : Nat) = 4) (by decide)
    · rw [nd_r hj2] at he; exact absurd (by rw [← K1, ← (KR j2 hj2)]; exact congrArg (pm_k S2) he : (13 : Nat) = 9) (by decide)
    · exact absurd (by rw [← K2, ← K0]; exact congrArg (pm_k S2) he : (4 : Nat) = 2) (by decide)
    · exact absurd (by rw [← K2, ← K1]; exact congrArg (pm_k S2) he : (4 : Nat) = 13) (by decide)
    · exact rfl
    · exact absurd (by rw [← K2, ← K3]; exact congrArg (pm_k S2) he : (4 : Nat) = 9) (by decide)
    · exact absurd (by rw [← K2, ← K4]; exact congrArg (pm_k S2) he : (4 : Nat) = 1) (by decide)
    · exact absurd (by rw [← K2, ← K5]; exact congrArg (pm_k S2) he : (4 : Nat) = 13) (by decide)
    · exact absurd (by rw [← K2, ← K6]; exact congrArg (pm_k S2) he : (4 : Nat) = 5) (by decide)
    · exact absurd (by rw [← K2, ← K7]; exact congrArg (pm_k S2) he : (4 : Nat) = 9) (by decide)
    · exact absurd (by rw [← K2, ← K8]; exact congrArg (pm_k S2) he : (4 : Nat) = 9) (by decide)
    · exact absurd (by rw [← K2, ← K9]; exact congrArg (pm_k S2) he : (4 : Nat) = 9) (by decide)
    · rw [nd_t hj2] at he; exact absurd he.symm (d1 j2 hj2).1
    · rw [nd_r hj2] at he; exact absurd (by rw [← K2, ← (KR j2 hj2)]; exact congrArg (pm_k S2) he : (4 : Nat) = 9) (by decide)
    · exact absurd (by rw [← K3, ← K0]; exact congrArg (pm_k S2) he : (9 : Nat) = 2) (by decide)
    · exact absurd (by rw [← K3, ← K1]; exact congrArg (pm_k S2) he : (9 : Nat) = 13) (by decide)
    · exact absurd (by rw [← K3, ← K2]; exact congrArg (pm_k S2) he : (9 : Nat) = 4) (by decide)
    · exact rfl
    · exact absurd (by rw [← K3, ← K4]; exact congrArg (pm_k S2) he : (9 : Nat) = 1) (by decide)
    · exact absurd (by rw [← K3, ← K5]; exact congrArg (pm_k S2) he : (9 : Nat) = 13) (by decide)
    · exact absurd (by rw [← K3, ← K6]; exact congrArg (pm_k S2) he : (9 : Nat) = 5) (by decide)
    · exact absurd he u5
    · exact absurd he u6
    · exact absurd he u7
    · rw [nd_t hj2] at he; exact absurd (by rw [← K3, ← (KT j2 hj2)]; exact congrArg (pm_k S2) he : (9 : Nat) = 4) (by decide)
    · rw [nd_r hj2] at he; exact absurd he.symm (d1 j2 hj2).2.1
    · exact absurd (by rw [← K4, ← K0]; exact congrArg (pm_k S2) he : (1 : Nat) = 2) (by decide)
    · exact absurd (by rw [← K4, ← K1]; exact congrArg (pm_k S2) he : (1 : Nat) = 13) (by decide)
    · exact absurd (by rw [← K4, ← K2]; exact congrArg (pm_k S2) he : (1 : Nat) = 4) (by decide)
    · exact absurd (by rw [← K4, ← K3]; exact congrArg (pm_k S2) he : (1 : Nat) = 9) (by decide)
    · exact rfl
    · exact absurd (by rw [← K4, ← K5]; exact congrArg (pm_k S2) he : (1 : Nat) = 13) (by decide)
    · exact absurd (by rw [← K4, ← K6]; exact congrArg (pm_k S2) he : (1 : Nat) = 5) (by decide)
    · exact absurd (by rw [← K4, ← K7]; exact congrArg (pm_k S2) he : (1 : Nat) = 9) (by decide)
    · exact absurd (by rw [← K4, ← K8]; exact congrArg (pm_k S2) he : (1 : Nat) = 9) (by decide)
    · exact absurd (by rw [← K4, ← K9]; exact congrArg (pm_k S2) he : (1 : Nat) = 9) (by decide)
    · rw [nd_t hj2] at he; exact absurd (by rw [← K4, ← (KT j2 hj2)]; exact congrArg (pm_k S2) he : (1 : Nat) = 4) (by decide)
    · rw [nd_r hj2] at he; exact absurd (by rw [← K4, ← (KR j2 hj2)]; exact congrArg (pm_k S2) he : (1 : Nat) = 9) (by decide)
    · exact absurd (by rw [← K5, ← K0]; exact congrArg (pm_k S2) he : (13 : Nat) = 2) (by decide)
    · exact absurd he.symm u1
    · exact absurd (by rw [← K5, ← K2]; exact congrArg (pm_k S2) he : (13 : Nat) = 4) (by decide)
    · exact absurd (by rw [← K5, ← K3]; exact congrArg (pm_k S2) he : (13 : Nat) = 9) (by decide)
    · exact absurd (by rw [← K5, ← K4]; exact congrArg (pm_k S2) he : (13 : Nat) = 1) (by decide)
    · exact rfl
    · exact absurd (by rw [← K5, ← K6]; exact congrArg (pm_k S2) he : (13 : Nat) = 5) (by decide)
    · exact absurd (by rw [← K5, ← K7]; exact congrArg (pm_k S2) he : (13 : Nat) = 9) (by decide)
    · exact absurd (by rw [← K5, ← K8]; exact congrArg (pm_k S2) he : (13 : Nat) = 9) (by decide)
    · exact absurd (by rw [← K5, ← K9]; exact congrArg (pm_k S2) he : (13 : Nat) = 9) (by decide)
    · rw [nd_t hj2] at he; exact absurd (by rw [← K5, ← (KT j2 hj2)]; exact congrArg (pm_k S2) he : (13 : Nat) = 4) (by decide)
    · rw [nd_r hj2] at he; exact absurd (by rw [← K5, ← (KR j2 hj2)]; exact congrArg (pm_k S2) he : (13 : Nat) = 9) (by decide)
    · exact absurd (by rw [← K6, ← K0]; exact congrArg (pm_k S2) he : (5 : Nat) = 2) (by decide)
    · exact absurd (by rw [← K6, ← K1]; exact congrArg (pm_k S2) he : (5 : Nat) = 13) (by decide)
    · exact absurd (by rw [← K6, ← K2]; exact congrArg (pm_k S2) he : (5 : Nat) = 4) (by decide)
    · exact absurd (by rw [← K6, ← K3]; exact congrArg (pm_k S2) he : (5 : Nat) = 9) (by decide)
    · exact absurd (by rw [← K6, ← K4]; exact congrArg (pm_k S2) he : (5 : Nat) = 1) (by decide)
    · exact absurd (by rw [← K6, ← K5]; exact congrArg (pm_k S2) he : (5 : Nat) = 13) (by decide)
    · exact rfl
    · exact absurd (by rw [← K6, ← K7]; exact congrArg (pm_k S2) he : (5 : Nat) = 9) (by decide)
    · exact absurd (by rw [← K6, ← K8]; exact congrArg (pm_k S2) he : (5 : Nat) = 9) (by decide)
    · exact absurd (by rw [← K6, ← K9]; exact congrArg (pm_k S2) he : (5 : Nat) = 9) (by decide)
    · rw [nd_t hj2] at he; exact absurd (by rw [← K6, ← (KT j2 hj2)]; exact congrArg (pm_k S2) he : (5 : Nat) = 4) (by decide)
    · rw [nd_r hj2] at he; exact absurd (by rw [← K6, ← (KR j2 hj2)]; exact congrArg (pm_k S2) he : (5 : Nat) = 9) (by decide)
    · exact absurd (by rw [← K7, ← K0]; exact congrArg (pm_k S2) he : (9 : Nat) = 2) (by decide)
    · exact absurd (by rw [← K7, ← K1]; exact congrArg (pm_k S2) he : (9 : Nat) = 13) (by decide)
    · exact absurd (by rw [← K7, ← K2]; exact congrArg (pm_k S2) he : (9 : Nat) = 4) (by decide)
    · exact absurd he.symm u5
    · exact absurd (by rw [← K7, ← K4]; exact congrArg (pm_k S2) he : (9 : Nat) = 1) (by decide)
    · exact absurd (by rw [← K7, ← K5]; exact congrArg (pm_k S2) he : (9 : Nat) = 13) (by decide)
    · exact absurd (by rw [← K7, ← K6]; exact congrArg (pm_k S2) he : (9 : Nat) = 5) (by decide)
    · exact rfl
    · exact absurd he u2
    · exact absurd he u3
    · rw [nd_t hj2] at he; exact absurd (by rw [← K7, ← (KT j2 hj2)]; exact congrArg (pm_k S2) he : (9 : Nat) = 4) (by decide)
    · rw [nd_r hj2] at he; exact absurd he.symm (d1 j2 hj2).2.2.1
    · exact absurd (by rw [← K8, ← K0]; exact congrArg (pm_k S2) he : (9 : Nat) = 2) (by decide)
    · exact absurd (by rw [← K8, ← K1]; exact congrArg (pm_k S2) he : (9 : Nat) = 13) (by decide)
    · exact absurd (by rw [← K8, ← K2]; exact congrArg (pm_k S2) he : (9 : Nat) = 4) (by decide)
    · exact absurd he.symm u6
    · exact absurd (by rw [← K8, ← K4]; exact congrArg (pm_k S2) he : (9 : Nat) = 1) (by decide)
    · exact absurd (by rw [← K8, ← K5]; exact congrArg (pm_k S2) he : (9 : Nat) = 13) (by decide)
    · exact absurd (by rw [← K8, ← K6]; exact congrArg (pm_k S2) he : (9 : Nat) = 5) (by decide)
    · exact absurd he.symm u2
    · exact rfl
    · exact absurd he u4
    · rw [nd_t hj2] at he; exact absurd (by rw [← K8, ← (KT j2 hj2)]; exact congrArg (pm_k S2) he : (9 : Nat) = 4) (by decide)
    · rw [nd_r hj2] at he; exact absurd he.symm (d1 j2 hj2).2.2.2.1
    · exact absurd (by rw [← K9, ← K0]; exact congrArg (pm_k S2) he : (9 : Nat) = 2) (by decide)
    · exact absurd (by rw [← K9, ← K1]; exact congrArg (pm_k S2) he : (9 : Nat) = 13) (by decide)
    · exact absurd (by rw [← K9, ← K2]; exact congrArg (pm_k S2) he : (9 : Nat) = 4) (by decide)
    · exact absurd he.symm u7
    · exact absurd (by rw [← K9, ← K4]; exact congrArg (pm_k S2) he : (9 : Nat) = 1) (by decide)
    · exact absurd (by rw [← K9, ← K5]; exact congrArg (pm_k S2) he : (9 : Nat) = 13) (by decide)
    · exact absurd (by rw [← K9, ← K6]; exact congrArg (pm_k S2) he : (9 : Nat) = 5) (by decide)
    · exact absurd he.symm u3
    · exact absurd he.symm u4
    · exact rfl
    · rw [nd_t hj2] at he; exact absurd (by rw [← K9, ← (KT j2 hj2)]; exact congrArg (pm_k S2) he : (9 : Nat) = 4) (by decide)
    · rw [nd_r hj2] at he; exact absurd he.symm (d1 j2 hj2).2.2.2.2
    · rw [nd_t hj1] at he; exact absurd (by rw [← (KT j1 hj1), ← K0]; exact congrArg (pm_k S2) he : (4 : Nat) = 2) (by decide)
    · rw [nd_t hj1] at he; exact absurd (by rw [← (KT j1 hj1), ← K1]; exact congrArg (pm_k S2) he : (4 : Nat) = 13) (by decide)
    · rw [nd_t hj1] at he; exact absurd he (d1 j1 hj1).1
    · rw [nd_t hj1] at he; exact absurd (by rw [← (KT j1 hj1), ← K3]; exact congrArg (pm_k S2) he : (4 : Nat) = 9) (by decide)
    · rw [nd_t hj1] at he; exact absurd (by rw [← (KT j1 hj1), ← K4]; exact congrArg (pm_k S2) he : (4 : Nat) = 1) (by decide)
    · rw [nd_t hj1] at he; exact absurd (by rw [← (KT j1 hj1), ← K5]; exact congrArg (pm_k S2) he : (4 : Nat) = 13) (by decide)
    · rw [nd_t hj1] at he; exact absurd (by rw [← (KT j1 hj1), ← K6]; exact congrArg (pm_k S2) he : (4 : Nat) = 5) (by decide)
    · rw [nd_t hj1] at he; exact absurd (by rw [← (KT j1 hj1), ← K7]; exact congrArg (pm_k S2) he : (4 : Nat) = 9) (by decide)
    · rw [nd_t hj1] at he; exact absurd (by rw [← (KT j1 hj1), ← K8]; exact congrArg (pm_k S2) he : (4 : Nat) = 9) (by decide)
    · rw [nd_t hj1] at he; exact absurd (by rw [← (KT j1 hj1), ← K9]; exact congrArg (pm_k S2) he : (4 : Nat) = 9) (by decide)
    · rw [nd_t hj1] at he; rw [nd_t hj2] at he; rw [(d2 j1 j2 hj1 hj2).1 he]
    · rw [nd_t hj1] at he; rw [nd_r hj2] at he; exact absurd (by rw [← (KT j1 hj1), ← (KR j2 hj2)]; exact congrArg (pm_k S2) he : (4 : Nat) = 9) (by decide)
    · rw [nd_r hj1] at he; exact absurd (by rw [← (KR j1 hj1), ← K0]; exact congrArg (pm_k S2) he : (9 : Nat) = 2) (by decide)
    · rw [nd_r hj1] at he; exact absurd (by rw [← (KR j1 hj1), ← K1]; exact congrArg (pm_k S2) he : (9 : Nat) = 13) (by decide)
    · rw [nd_r hj1] at he; exact absurd (by rw [← (KR j1 hj1), ← K2]; exact congrArg (pm_k S2) he : (9 : Nat) = 4) (by decide)
    · rw [nd_r hj1] at he; exact absurd he (d1 j1 hj1).2.1
    · rw [nd_r hj1] at he; exact absurd (by rw [← (KR j1 hj1), ← K4]; exact congrArg (pm_k S2) he : (9 : Nat) = 1) (by decide)
    · rw [nd_r hj1] at he; exact absurd (by rw [← (KR j1 hj1), ← K5]; exact congrArg (pm_k S2) he : (9 : Nat) = 13) (by decide)
    · rw [nd_r hj1] at he; exact absurd (by rw [← (KR j1 hj1), ← K6]; exact congrArg (pm_k S2) he : (9 : Nat) = 5) (by decide)
    · rw [nd_r hj1] at he; exact absurd he (d1 j1 hj1).2.2.1
    · rw [nd_r hj1] at he; exact absurd he (d1 j1 hj1).2.2.2.1
    · rw [nd_r hj1] at he; exact absurd he (d1 j1 hj1).2.2.2.2
    · rw [nd_r hj1] at he; rw [nd_t hj2] at he; exact absurd (by rw [← (KR j1 hj1), ← (KT j2 hj2)]; exact congrArg (pm_k S2) he : (9 : Nat) = 4) (by decide)
    · rw [nd_r hj1] at he; rw [nd_r hj2] at he; rw [(d2 j1 j2 hj1 hj2).2 he]
  have FF : ∀ i, (i < 18 ∨ (20 ≤ i ∧ i < 28)) → pm_k S (nda v a t r m k l b c e tt rr i) = 0 ∧ pm_k S2 (nda v a t r m k l b c e tt rr i) ≠ 0 := by
    intro i hi
    rcases nd_cs hi with rfl | rfl | rfl | rfl | rfl | rfl | rfl | rfl | rfl | rfl | ⟨j1, hj1, rfl⟩ | ⟨j1, hj1, rfl⟩
    · exact ⟨fv, fun z => by rw [show nda v a t r m k l b c e tt rr 0 = v from rfl, K0] at z; cases z⟩
    · exact ⟨(fr _ f1), fun z => by rw [show nda v a t r m k l b c e tt rr 1 = a from rfl, K1] at z; cases z⟩
    · exact ⟨(fr _ f2), fun z => by rw [show nda v a t r m k l b c e tt rr 2 = t from rfl, K2] at z; cases z⟩
    · exact ⟨(fr _ f3), fun z => by rw [show nda v a t r m k l b c e tt rr 3 = r from rfl, K3] at z; cases z⟩
    · exact ⟨(fr _ f4), fun z => by rw [show nda v a t r m k l b c e tt rr 4 = m from rfl, K4] at z; cases z⟩
    · exact ⟨(fr _ f5), fun z => by rw [show nda v a t r m k l b c e tt rr 5 = k from rfl, K5] at z; cases z⟩
    · exact ⟨(fr _ f6), fun z => by rw [show nda v a t r m k l b c e tt rr 6 = l from rfl, K6] at z; cases z⟩
    · exact ⟨(fr _ f7), fun z => by rw [show nda v a t r m k l b c e tt rr 7 = b from rfl, K7] at z; cases z⟩
    · exact ⟨(fr _ f8), fun z => by rw [show nda v a t r m k l b c e tt rr 8 = c from rfl, K8] at z; cases z⟩
    · exact ⟨(fr _ f9), fun z => by rw [show nda v a t r m k l b c e tt rr 9 = e from rfl, K9] at z; cases z⟩
    · rw [nd_t hj1]; exact ⟨fr _ (hz j1 hj1).2.2.1, fun z => by rw [KT j1 hj1] at z; cases z⟩
    · rw [nd_r hj1]; exact ⟨fr _ (hz j1 hj1).2.2.2, fun z => by rw [KR j1 hj1] at z; cases z⟩
  refine ⟨yNew Y (az_a Z 0) (nda v a t r m k l b c e tt rr), yNew_le hn, yNew_n (by omega), K0, G, ?_, fun p hp => ?_⟩
  · rw [e2, e0]
    have hP2 : nP (pm_sz S2 (Y.1 2) (az_a Z 0) (some v)) a t r m k l b c e := by
      obtain ⟨⟨x1, x2⟩, y1, ⟨c1, c2, c3, c4⟩, q1, q2, q3⟩ := hP
      exact ⟨⟨x1, x2⟩, y1, ⟨c1, c2, c3, fun i => by rw [pm_z_sz, if_neg (fun z => absurd (by rw [← K5, z.1]; exact kM : (13 : Nat) = 12) (by decide))]; exact c4 i⟩, q1, q2, q3⟩
    refine G2.ext hI hn hin (fun d c hd hc z => h.2.1 c hc (by rw [← z]; exact (FF d hd).1)) (fun d hd => (FF d hd).2) (hV.mv (ee v 2 K0 (by decide))) hP2 (fun j hj => ?_) (by rw [pm_z_sz, if_pos ⟨rfl, rfl⟩]; rfl)
    · rw [nd_t hj, nd_r hj]
      exact ⟨by rw [show nda v a t r m k l b c e tt rr 1 = a from rfl, pm_z_sz, if_neg (fun z => absurd (by rw [← K1, z.1]; exact kM : (13 : Nat) = 12) (by decide))]; exact (hz j hj).1, ((hz j hj).2.1).mv (e8_7 (ee _ 4 (KT j hj) (by decide))) (e8_7 (ee _ 9 (KR j hj) (by decide)))⟩
  · by_cases q : p = az_a Z 0
    · rw [z_b_n, if_pos q, if_neg (by decide), if_neg (by decide)]; exact if_pos q
    · rw [z_b_n, if_neg q, yNew_m (by omega)]; exact hmk p (by omega)
end NWR
