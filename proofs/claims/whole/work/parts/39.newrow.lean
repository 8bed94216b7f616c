/-! a new row of a mailbox -/
theorem lv_no {n : Nat} {mk : Nat → Nat} {p : Nat} (hp : p < 60) (hk : mk p < 40) : ¬ lv n mk (pq p (30 + mk p)) ∧ ¬ lv n mk (pq p (80 + mk p)) := by
  have e1 := pq_lt (c := 30 + mk p) hp (Nat.le_refl 60) (by omega)
  have e2 := pq_lt (c := 80 + mk p) hp (Nat.le_refl 60) (by omega)
  have e3 : 100 ≤ pq p (30 + mk p) := by unfold pq; omega
  have e4 : 100 ≤ pq p (80 + mk p) := by unfold pq; omega
  refine ⟨fun h => ?_, fun h => ?_⟩
  · rcases h with h | ⟨q, d, hq, e, hd, hd2⟩ | h | h
    · omega
    · obtain ⟨a, b⟩ := pq_inj (by omega) (by omega) e
      subst a
      omega
    · omega
    · omega
  · rcases h with h | ⟨q, d, hq, e, hd, hd2⟩ | h | h
    · omega
    · obtain ⟨a, b⟩ := pq_inj (by omega) (by omega) e
      subst a
      omega
    · omega
    · omega
def yRow (Y : pm_Y) (p t r : Nat) : pm_Y := ((fun c => if c = pq p (30 + Y.2.1 p) then t else if c = pq p (80 + Y.2.1 p) then r else Y.1 c), (fun q => if q = p then Y.2.1 p + 1 else Y.2.1 q), (fun q i => if q = p ∧ i = Y.2.1 p then Y.2.1 p else Y.2.2 q i))
theorem lv_row {n : Nat} {Y : pm_Y} {p t r c : Nat} (h : lv n (yRow Y p t r).2.1 c) : c = pq p (30 + Y.2.1 p) ∨ c = pq p (80 + Y.2.1 p) ∨ lv n Y.2.1 c := by
  rcases h with h | ⟨q, d, hq, e, hd, hd2⟩ | h
  · exact Or.inr (Or.inr (Or.inl h))
  · have hm : (yRow Y p t r).2.1 q = if q = p then Y.2.1 p + 1 else Y.2.1 q := rfl
    rw [hm] at hd
    by_cases e1 : q = p
    · subst e1
      rw [if_pos rfl] at hd
      by_cases e2 : d = 30 + Y.2.1 q
      · subst e2
        exact Or.inl e
      · by_cases e3 : d = 80 + Y.2.1 q
        · subst e3
          exact Or.inr (Or.inl e)
        · exact Or.inr (Or.inr (Or.inr (Or.inl ⟨q, d, hq, e, by omega, hd2⟩)))
    · rw [if_neg e1] at hd
      exact Or.inr (Or.inr (Or.inr (Or.inl ⟨q, d, hq, e, hd, hd2⟩)))
  · exact Or.inr (Or.inr (Or.inr (Or.inr h)))
/-- the memory with a new term, its row, in place k of the array a -/
def sRow (S : pm_S) (t r a k : Nat) : pm_S := pm_sz (pm_si (pm_sp (pm_nw (pm_nw S t 4 0) r 9 95) 150 t (some r)) 151 t 2) a k (some t)
theorem sRow_e7 {S : pm_S} {t r a k b : Nat} (h1 : b ≠ t) (h2 : b ≠ r) : pm_e7 S (sRow S t r a k) b := by
  unfold sRow
  refine ⟨?_, ?_, fun g => ?_, fun g => ?_, fun g => ?_, fun i => ?_, fun i => ?_⟩
  · rw [pm_k_sz, pm_k_si, pm_k_sp, pm_k_nw, if_neg h2, pm_k_nw, if_neg h1]
  · rw [pm_n_sz, pm_n_si, pm_n_sp, pm_n_nw, if_neg h2, pm_n_nw, if_neg h1]
  · rw [pm_i_sz, pm_i_si, if_neg (fun z => h1 z.2), pm_i_sp, pm_i_nw, if_neg h2, pm_i_nw, if_neg h1]
  · rw [pm_j_sz, pm_j_si, pm_j_sp, pm_j_nw, if_neg h2, pm_j_nw, if_neg h1]
  · rw [pm_p_sz, pm_p_si, pm_p_sp, if_neg (fun z => h1 z.2), pm_p_nw, if_neg h2, pm_p_nw, if_neg h1]
  · rw [pm_x_sz, pm_x_si, pm_x_sp, pm_x_nw, if_neg h2, pm_x_nw, if_neg h1]
  · rw [pm_y_sz, pm_y_si, pm_y_sp, pm_y_nw, if_neg h2, pm_y_nw, if_neg h1]
theorem sRow_z {S : pm_S} {t r a k b i : Nat} (h1 : b ≠ t) (h2 : b ≠ r) : pm_z (sRow S t r a k) b i = if b = a ∧ i = k then some t else pm_z S b i := by
  unfold sRow
  rw [pm_z_sz, pm_z_si, pm_z_sp, pm_z_nw, if_neg h2, pm_z_nw, if_neg h1]
theorem sRow_tm {S : pm_S} {t r a k : Nat} (h : t ≠ r) : pm_tm (sRow S t r a k) t r [0, 0] := by
  unfold sRow
  refine ⟨⟨?_, ?_, ?_, ?_⟩, ?_, by decide, fun i hi => ?_⟩
  · rw [pm_k_sz, pm_k_si, pm_k_sp, pm_k_nw, if_neg h, pm_k_nw, if_pos rfl]
  · rw [pm_p_sz, pm_p_si, pm_p_sp, if_pos ⟨rfl, rfl⟩]
  · rw [pm_k_sz, pm_k_si, pm_k_sp, pm_k_nw, if_pos rfl]
  · rw [pm_n_sz, pm_n_si, pm_n_sp, pm_n_nw, if_pos rfl]
  · rw [pm_i_sz, pm_i_si, if_pos ⟨rfl, rfl⟩]; rfl
  · rw [pm_x_sz, pm_x_si, pm_x_sp, pm_x_nw, if_pos rfl]
    match i, hi with
    | 0, _ => rfl
    | 1, _ => rfl
section CRN
variable {Z : az} {S E : pm_S} {Y : pm_Y}
theorem pm_CR.newrow {p t r : Nat} (h : pm_CR Z S Y E) (hn : az_a Z 0 ≤ 60) (hp : p < az_a Z 0) (hk40 : Y.2.1 p < 40) (ft : pm_k S t = 0) (fr : pm_k S r = 0) (htr : t ≠ r) : pm_CR Z (sRow S t r (Y.1 (pq p 5)) (Y.2.1 p)) (yRow Y p t r) E := by
  obtain ⟨g1, g2, g3, g4, g5, g6, g7, g8, g9, g10, g11, g12, g13, g14, g15⟩ := id h
  have no := lv_no (n := az_a Z 0) (mk := Y.2.1) (p := p) (by omega) hk40
  have nt : ∀ c, lv (az_a Z 0) Y.2.1 c → Y.1 c ≠ t := fun c hc e => g2 c hc (by rw [e]; exact ft)
  have nr : ∀ c, lv (az_a Z 0) Y.2.1 c → Y.1 c ≠ r := fun c hc e => g2 c hc (by rw [e]; exact fr)
  have heq : ∀ c, lv (az_a Z 0) Y.2.1 c → (yRow Y p t r).1 c = Y.1 c := fun c hc => by
    show (if c = pq p (30 + Y.2.1 p) then t else if c = pq p (80 + Y.2.1 p) then r else Y.1 c) = Y.1 c
    rw [if_neg (fun e : c = _ => no.1 (by rw [← e]; exact hc)), if_neg (fun e : c = _ => no.2 (by rw [← e]; exact hc))]
  have e30 : (yRow Y p t r).1 (pq p (30 + Y.2.1 p)) = t := if_pos rfl
  have e80 : (yRow Y p t r).1 (pq p (80 + Y.2.1 p)) = r := by
    show (if pq p (80 + Y.2.1 p) = pq p (30 + Y.2.1 p) then t else if pq p (80 + Y.2.1 p) = pq p (80 + Y.2.1 p) then r else _) = r
    rw [if_neg (pq_ne (by omega) (by omega) (by omega)), if_pos rfl]
  have l5 : ∀ q, q < az_a Z 0 → lv (az_a Z 0) Y.2.1 (pq q 5) := fun q hq => lv_p hq (by omega)
  have zz : ∀ c, lv (az_a Z 0) Y.2.1 c → c ≠ pq p 5 → ∀ i, pm_z (sRow S t r (Y.1 (pq p 5)) (Y.2.1 p)) (Y.1 c) i = pm_z S (Y.1 c) i := fun c hc hne i => by
    rw [sRow_z (nt c hc) (nr c hc), if_neg (fun z => hne (g1 _ _ hc (l5 p hp) z.1))]
  have hS : ∀ c, lv (az_a Z 0) Y.2.1 c → pm_e7 S (sRow S t r (Y.1 (pq p 5)) (Y.2.1 p)) (Y.1 c) := fun c hc => sRow_e7 (nt c hc) (nr c hc)
  have pl : ∀ c, c < 100 → c ≠ pq p 5 := fun c hc => pq_low hc
  obtain ⟨k3, k4, k5, k6, k8, k9, k10, k11, k13, k15⟩ := h.move heq hS (fun q hq i => zz _ (lv_p hq (by omega)) (pq_ne (by omega) (by omega) (by omega)) i) (fun c hc i => zz c (lv_pc hc) (fun e => by have := pq_lt (c := 5) hp hn (by omega); omega) i)
  refine ⟨fun c d hc hd e => ?_, fun c hc => ?_, k3, k4, k5, k6, ⟨fun q hq => ?_, fun a ha => ?_⟩, k8, k9, k10, k11, ⟨fun q hq => ?_, fun i hi => ?_⟩, k13, fun q hq => ?_, k15⟩
  · rcases lv_row hc with h1 | h1 | h1 <;> rcases lv_row hd with h2 | h2 | h2
    · rw [h1, h2]
    · rw [h1, h2, e30, e80] at e; exact absurd e htr
    · rw [h1, e30, heq d h2] at e; exact absurd e.symm (nt d h2)
    · rw [h1, h2, e30, e80] at e; exact absurd e.symm htr
    · rw [h1, h2]
    · rw [h1, e80, heq d h2] at e; exact absurd e.symm (nr d h2)
    · rw [h2, e30, heq c h1] at e; exact absurd e (nt c h1)
    · rw [h2, e80, heq c h1] at e; exact absurd e (nr c h1)
    · rw [heq c h1, heq d h2] at e; exact g1 c d h1 h2 e
  · have q := sRow_tm (S := S) (t := t) (r := r) (a := Y.1 (pq p 5)) (k := Y.2.1 p) htr
    rcases lv_row hc with h1 | h1 | h1
    · rw [h1, e30, q.1.1]; decide
    · rw [h1, e80, q.1.2.2.1]; decide
    · rw [heq c h1, (hS c h1).1]; exact g2 c h1
  · rw [heq _ (lv_p hq (by omega)), (hS _ (lv_p hq (by omega))).2.2.1]
    exact g7.1 q hq
  · rw [heq 3 (lv_c (by omega)), zz 3 (lv_c (by omega)) (pl 3 (by omega)), g7.2 a ha]
    cases hc : az_e Z 2 a with
    | none => rfl
    | some q =>
      by_cases hq : q < az_a Z 0
      · show some (Y.1 (pq q 0)) = some ((yRow Y p t r).1 (pq q 0))
        rw [heq _ (lv_p hq (by omega))]
      · show some (Y.1 (pq q 0)) = some (if pq q 0 = pq p (30 + Y.2.1 p) then t else if pq q 0 = pq p (80 + Y.2.1 p) then r else Y.1 (pq q 0))
        rw [if_neg (pq_ne (by omega) (by omega) (by omega)), if_neg (pq_ne (by omega) (by omega) (by omega))]
  · rw [heq 2 (lv_c (by omega)), heq _ (lv_p hq (by omega)), zz 2 (lv_c (by omega)) (pl 2 (by omega))]
    exact g12.1 q hq
  · rw [heq 4 (lv_c (by omega)), zz 4 (lv_c (by omega)) (pl 4 (by omega)), g12.2 i hi]
    show some (Y.1 (pq (az_c Z 3 0 i) 0)) = some (if pq (az_c Z 3 0 i) 0 = pq p (30 + Y.2.1 p) then t else if pq (az_c Z 3 0 i) 0 = pq p (80 + Y.2.1 p) then r else Y.1 (pq (az_c Z 3 0 i) 0))
    rw [if_neg (pq_ne (by omega) (by omega) (by omega)), if_neg (pq_ne (by omega) (by omega) (by omega))]
  · obtain ⟨m1, m2, m3, m4, m5, m6⟩ := g14 q hq
    have fm : ∀ d, d < Y.2.1 q → (yRow Y p t r).1 (pq q (30 + d)) = Y.1 (pq q (30 + d)) ∧ (yRow Y p t r).1 (pq q (80 + d)) = Y.1 (pq q (80 + d)) := fun d hd => ⟨heq _ (lv_m hq hd m2), heq _ (lv_n hq hd m2)⟩
    have tmv : ∀ d w, d < Y.2.1 q → pm_tm S (Y.1 (pq q (30 + d))) (Y.1 (pq q (80 + d))) w → pm_tm (sRow S t r (Y.1 (pq p 5)) (Y.2.1 p)) ((yRow Y p t r).1 (pq q (30 + d))) ((yRow Y p t r).1 (pq q (80 + d))) w := fun d w hd hw => by
      rw [(fm d hd).1, (fm d hd).2]
      exact hw.mv (hS _ (lv_m hq hd m2)) (hS _ (lv_n hq hd m2))
    by_cases e : q = p
    · subst e
      have ek : (yRow Y q t r).2.1 q = Y.2.1 q + 1 := if_pos rfl
      have epi : ∀ i, i < Y.2.1 q → (yRow Y q t r).2.2 q i = Y.2.2 q i := fun i hi => if_neg (fun z => by omega)
      have epk : (yRow Y q t r).2.2 q (Y.2.1 q) = Y.2.1 q := if_pos ⟨rfl, rfl⟩
      rw [ek]
      refine ⟨by omega, by omega, fun k hk => ?_, fun k hk => ?_, fun k l hk hl hkl => ?_, fun k hk => ?_⟩
      · rw [heq _ (l5 q hq), sRow_z (nt _ (l5 q hq)) (nr _ (l5 q hq))]
        by_cases e1 : k = Y.2.1 q
        · subst e1
          rw [if_pos ⟨rfl, rfl⟩, if_pos (by omega), epk, e30]
        · rw [if_neg (fun z => e1 z.2), m3 k hk]
          by_cases e2 : k < Y.2.1 q
          · rw [if_pos e2, if_pos (by omega), epi k e2, (fm _ (m4 k e2).1).1]
          · rw [if_neg e2, if_neg (by omega)]
      · by_cases e1 : k = Y.2.1 q
        · subst e1
          rw [epk, e30, e80]
          exact ⟨by omega, [0, 0], sRow_tm htr⟩
        · have e2 : k < Y.2.1 q := by omega
          rw [epi k e2]
          obtain ⟨a, w, hw⟩ := m4 k e2
          exact ⟨by omega, w, tmv _ w a hw⟩
      · by_cases e1 : k = Y.2.1 q <;> by_cases e2 : l = Y.2.1 q
        · rw [e1, e2]
        · rw [e1, epk, epi l (by omega)] at hkl
          have := (m4 l (by omega)).1
          omega
        · rw [e2, epk, epi k (by omega)] at hkl
          have := (m4 k (by omega)).1
          omega
        · rw [epi k (by omega), epi l (by omega)] at hkl
          exact m5 k l (by omega) (by omega) hkl
      · rw [epi k (by omega)]
        exact tmv _ _ (m4 k (by omega)).1 (m6 k hk)
    · have ek : (yRow Y p t r).2.1 q = Y.2.1 q := if_neg e
      have epi : ∀ i, (yRow Y p t r).2.2 q i = Y.2.2 q i := fun i => if_neg (fun z => e z.1)
      rw [ek]
      refine ⟨m1, m2, fun k hk => ?_, fun k hk => ?_, fun k l hk hl hkl => ?_, fun k hk => ?_⟩
      · rw [heq _ (l5 q hq), zz _ (l5 q hq) (fun z => e (pq_inj (by omega) (by omega) z).1), m3 k hk]
        by_cases e2 : k < Y.2.1 q
        · rw [if_pos e2, if_pos e2, epi k, (fm _ (m4 k e2).1).1]
        · rw [if_neg e2, if_neg e2]
      · rw [epi k]
        obtain ⟨a, w, hw⟩ := m4 k hk
        exact ⟨a, w, tmv _ w a hw⟩
      · rw [epi k, epi l] at hkl
        exact m5 k l hk hl hkl
      · rw [epi k]
        exact tmv _ _ (m4 k (by omega)).1 (m6 k hk)
end CRN
