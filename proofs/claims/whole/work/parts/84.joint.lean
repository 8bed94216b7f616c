/-! class and reference side by side -/
/-- what is written elsewhere leaves the class's objects -/
theorem pm_CX.mvE {Z : az} {S S2 E : pm_S} {Y : pm_Y} (hx : pm_CX Z S Y E) (hn : az_a Z 0 ≤ 60) (hS : ∀ c, lv (az_a Z 0) Y.2.1 c → c < 20000 → pm_e8 S S2 (Y.1 c)) (hk : ∀ c, (20000 ≤ c ∧ c < 20031) ∨ c = 30000 → pm_k S2 (Y.1 c) ≠ 0) : pm_CX Z S2 Y S2 := by
  refine ⟨?_, hx.2⟩
  obtain ⟨g1, g2, g3, g4, g5, g6, g7, g8, g9, g10, g11, g12, g13, g14, g15⟩ := hx.1
  have sc : ∀ c, c < 15 → pm_e8 S S2 (Y.1 c) := fun c hc => hS c (lv_c hc) (by omega)
  have sp : ∀ p d, p < az_a Z 0 → d < 18 → pm_e8 S S2 (Y.1 (pq p d)) := fun p d hp hd => hS _ (lv_p hp hd) (pq_lt hp hn (by omega))
  have sr : ∀ p d, p < az_a Z 0 → d < 8 → pm_e8 S S2 (Y.1 (pq p (20 + d))) := fun p d hp hd => hS _ (lv_r hp hd) (pq_lt hp hn (by omega))
  refine ⟨g1, fun c hc => ?_, ?_, fun p hp => ?_, fun p hp f c i ht => ?_, fun f c i ht => ?_, ⟨fun p hp => ?_, fun a ha => ?_⟩, fun p hp => ?_, ⟨fun i hi => ?_, fun i hi hi2 => ?_⟩, fun p hp => ?_, ⟨?_, fun i hi => ?_⟩, ⟨fun p hp => ?_, fun i hi => ?_⟩, fun p hp => ?_, fun p hp => ?_, fun c hc => e8_rf⟩
  · by_cases h : c < 20000
    · rw [(hS c hc h).1]; exact g2 c hc
    · refine hk c ?_
      rcases hc with q | ⟨p, d, hp, e, hd, hd2⟩ | q
      · omega
      · have := pq_lt (c := d) hp hn (by omega); omega
      · exact q
  · obtain ⟨⟨a0, a1, a2, a3, a4, a5, a6, a7, a8⟩, b1, b2, b3, b4, ⟨w0, w1, w2, w3, w4, w5, w6, w7, w8, w9, w10⟩, ⟨s0, s1, s2, s3⟩, l1, l2⟩ := g3
    have c0 := sc 0 (by omega)
    have c5 := sc 5 (by omega)
    have c9 := sc 9 (by omega)
    have q := fun g => c0.2.2.2.2.1 g
    have q5 := fun g => c5.2.2.2.2.1 g
    exact ⟨⟨c0.1.trans a0, (q _).trans a1, (q _).trans a2, (q _).trans a3, (q _).trans a4, (q _).trans a5, (q _).trans a6, (q _).trans a7, (q _).trans a8⟩, ⟨(sc 1 (by omega)).1.trans b1.1, (sc 1 (by omega)).2.1.trans b1.2⟩, ⟨(sc 2 (by omega)).1.trans b2.1, (sc 2 (by omega)).2.1.trans b2.2⟩, ⟨(sc 3 (by omega)).1.trans b3.1, (sc 3 (by omega)).2.1.trans b3.2⟩, ⟨(sc 4 (by omega)).1.trans b4.1, (sc 4 (by omega)).2.1.trans b4.2⟩, ⟨c5.1.trans w0, (q5 _).trans w1, (q5 _).trans w2, (q5 _).trans w3, (sc 6 (by omega)).1.trans w4, (sc 6 (by omega)).2.1.trans w5, (sc 7 (by omega)).1.trans w6, (sc 7 (by omega)).2.1.trans w7, (sc 8 (by omega)).1.trans w8, (sc 8 (by omega)).2.1.trans w9, w10⟩, ⟨c9.1.trans s0, (c9.2.2.2.2.1 _).trans s1, (sc 10 (by omega)).1.trans s2, (sc 10 (by omega)).2.1.trans s3⟩, l1.mv (e8_7 (sc 11 (by omega))) (e8_7 (sc 12 (by omega))), l2.mv (e8_7 (sc 13 (by omega))) (e8_7 (sc 14 (by omega)))⟩
  · obtain ⟨⟨a1, a2, a3, a4, a5, a6⟩, ⟨r1, r2, r3⟩, ⟨m1, m2, m3, m4⟩, t1, t2, t3, t4, t5, t6, t7, t8, t9, t10⟩ := g4 p hp
    have p0 := sp p 0 hp (by omega)
    have p1 := sp p 1 hp (by omega)
    have p4 := sp p 4 hp (by omega)
    have p5 := sp p 5 hp (by omega)
    have p6 := sp p 6 hp (by omega)
    have q0 := fun g => p0.2.2.2.2.1 g
    have q6 := fun g => p6.2.2.2.2.1 g
    exact ⟨⟨p0.1.trans a1, (q0 _).trans a2, (q0 _).trans a3, (q0 _).trans a4, (q0 _).trans a5, (p0.2.2.1 _).trans a6⟩, ⟨p1.1.trans r1, p1.2.1.trans r2, fun j hj => (p1.2.2.2.2.2.2.2 j).trans (r3 j hj)⟩, ⟨p4.1.trans m1, (p4.2.2.2.2.1 _).trans m2, p5.1.trans m3, p5.2.1.trans m4⟩, p6.1.trans t1, (q6 _).trans t2, (q6 _).trans t3, (q6 _).trans t4, (sp p 7 hp (by omega)).1.trans t5, (sp p 7 hp (by omega)).2.1.trans t6, (sp p 8 hp (by omega)).1.trans t7, (sp p 8 hp (by omega)).2.1.trans t8, (sp p 9 hp (by omega)).1.trans t9, (sp p 9 hp (by omega)).2.1.trans t10⟩
  · have hc := (tbB_c ht).1
    exact ((sp p c hp (by omega)).2.2.1 f).trans (g5 p hp f c i ht)
  · have hc := (tbA_c ht).1
    exact ((sc c (by omega)).2.2.1 f).trans (g6 f c i ht)
  · exact ((sp p 0 hp (by omega)).2.2.1 _).trans (g7.1 p hp)
  · exact ((sc 3 (by omega)).2.2.2.2.2.2.2 a).trans (g7.2 a ha)
  · have h := g8 p hp
    rw [(sp p 0 hp (by omega)).2.2.2.1, (sp p 0 hp (by omega)).2.2.2.1]
    exact h
  · exact ((sc 1 (by omega)).2.2.2.2.2.1 i).trans (g9.1 i hi)
  · exact ((sc 10 (by omega)).2.2.2.2.2.1 i).trans (g9.2 i hi hi2)
  · obtain ⟨a, b, c⟩ := g10 p hp
    exact ⟨fun i hi => ((sp p 7 hp (by omega)).2.2.2.2.2.1 i).trans (a i hi), fun i hi => ((sp p 8 hp (by omega)).2.2.2.2.2.1 i).trans (b i hi), fun i hi => ((sp p 9 hp (by omega)).2.2.2.2.2.1 i).trans (c i hi)⟩
  · exact ((sc 5 (by omega)).2.2.1 _).trans g11.1
  · rw [(sc 6 (by omega)).2.2.2.2.2.1, (sc 7 (by omega)).2.2.2.2.2.1, (sc 8 (by omega)).2.2.2.2.2.1]
    exact g11.2 i hi
  · exact ((sc 2 (by omega)).2.2.2.2.2.2.2 p).trans (g12.1 p hp)
  · exact ((sc 4 (by omega)).2.2.2.2.2.2.2 i).trans (g12.2 i hi)
  · exact ⟨fun j hj => ((g13 p hp).1 j hj).mv (e8_7 (sp p (10 + j) hp (by omega))) (e8_7 (sr p j hp hj)), (g13 p hp).2.mv (e8_7 (sp p 2 hp (by omega))) (e8_7 (sp p 3 hp (by omega)))⟩
  · obtain ⟨m1, m2, m3, m4, m5, m6⟩ := g14 p hp
    have tmv : ∀ d w, d < Y.2.1 p → pm_tm S (Y.1 (pq p (30 + d))) (Y.1 (pq p (80 + d))) w → pm_tm S2 (Y.1 (pq p (30 + d))) (Y.1 (pq p (80 + d))) w := fun d w hd hw => hw.mv (e8_7 (hS _ (lv_m hp hd m2) (pq_lt hp hn (by omega)))) (e8_7 (hS _ (lv_n hp hd m2) (pq_lt hp hn (by omega))))
    refine ⟨m1, m2, fun k hk => ((sp p 5 hp (by omega)).2.2.2.2.2.2.2 k).trans (m3 k hk), fun k hk => ?_, m5, fun k hk => tmv _ _ (m4 k (by omega)).1 (m6 k hk)⟩
    obtain ⟨a, w, hw⟩ := m4 k hk
    exact ⟨a, w, tmv _ w a hw⟩
/-- what is written elsewhere leaves the reference's -/
theorem pm_MX.mvE {M : pm_N} {S S2 E : pm_S} {A : Nat → Nat} (h : pm_MX M S A E) (h0 : pm_e8 S S2 (A 50)) (hA : ∀ s, 0 < mlen s → pm_e8 S S2 (A s)) : pm_MX M S2 A S2 := by
  obtain ⟨h1, h2, h3, h4, h5, h6, h7⟩ := h
  exact ⟨h0.1.trans h1, fun s hs => ⟨(h0.2.2.2.2.1 _).trans (h2 s hs).1, (hA s hs).1.trans (h2 s hs).2.1, (hA s hs).2.1.trans (h2 s hs).2.2⟩, h3, fun s hs k => ((hA s hs).2.2.2.2.2.1 k).trans (h4 s hs k), fun f => (h0.2.2.1 _).trans (h5 f), fun b _ _ => e8_rf, h7⟩
/-- which place the array of a field has among the codes -/
def mcd : Nat → Nat
  | 27 => 25 | 28 => 26 | 29 => 27 | 32 => 28 | 34 => 29 | s => if s < 25 then s else 0
theorem mcd_lt {s : Nat} (h : 0 < mlen s) : mcd s < 30 := by
  unfold mlen at h
  split at h <;> first | decide | exact absurd h (by decide)
/-- both, over one state; n calls are behind -/
def zJ (n : Nat) (Z : az) (S : pm_S) (Y : pm_Y) : Prop :=
  pm_CX Z S Y S ∧ (∃ (A : Nat → Nat) (M : pm_N), pm_MX M S A S ∧ mR (az_a Z 2) Z M ∧ A 50 = Y.1 20000 ∧ ∀ s, 0 < mlen s → A s = Y.1 (20001 + mcd s)) ∧ az_a Z 2 = az_a Z 1 ∧ zI 0 Z ∧ zOps Z ∧ (az_a Z 4 ≤ 60 * n ∧ az_a Z 5 ≤ 720 * n ∧ az_a Z 6 ≤ 10000 * n) ∧ pm_k S (Y.1 30000) = 11 ∧ pm_n S (Y.1 30000) = 1
/-- after a call of the class, before the reference's: the reference still holds the old state -/
theorem pm_CX.ref {Z : az} {S S2 : pm_S} {Y : pm_Y} {A : Nat → Nat} {M : pm_N} (hx : pm_CX Z S2 Y S) (hm : pm_MX M S A S) (h50 : A 50 = Y.1 20000) (hA : ∀ s, 0 < mlen s → A s = Y.1 (20001 + mcd s)) : pm_MX M S2 A S2 := by
  have hE := hx.1.2.2.2.2.2.2.2.2.2.2.2.2.2.2
  exact hm.mvE (by rw [h50]; exact hE 20000 (by omega)) (fun s hs => by rw [hA s hs]; have := mcd_lt hs; exact hE (20001 + mcd s) (by omega))
/-- after a call of the reference: the class still holds its state -/
theorem pm_MX.cls {Z : az} {S S2 E : pm_S} {Y : pm_Y} {A : Nat → Nat} {M : pm_N} (hx : pm_CX Z S Y E) (hn : az_a Z 0 ≤ 60) (hm : pm_MX M S2 A S) (h50 : A 50 = Y.1 20000) (hA : ∀ s, 0 < mlen s → A s = Y.1 (20001 + mcd s)) : pm_CX Z S2 Y S2 ∧ pm_MX M S2 A S2 ∧ pm_e8 S S2 (Y.1 30000) := by
  have hne : ∀ c, lv (az_a Z 0) Y.2.1 c → (c < 20000 ∨ c = 30000) → pm_e8 S S2 (Y.1 c) := fun c hc hc2 => by
    refine hm.2.2.2.2.2.1 _ (fun e => ?_) (fun s hs e => ?_)
    · rw [h50] at e
      have := hx.1.1 _ _ hc (lv_pc (Or.inl ⟨Nat.le_refl _, by omega⟩)) e
      omega
    · rw [hA s hs] at e
      have h41 := mcd_lt hs
      have := hx.1.1 _ _ hc (lv_pc (c := 20001 + mcd s) (Or.inl ⟨by omega, by omega⟩)) e
      omega
  refine ⟨hx.mvE hn (fun c hc h => hne c hc (Or.inl h)) (fun c hc => ?_), hm.mvE e8_rf (fun _ _ => e8_rf), hne 30000 (lv_pc (Or.inr rfl)) (Or.inr rfl)⟩
  by_cases e : c = 30000
  · rw [e, (hne 30000 (lv_pc (Or.inr rfl)) (Or.inr rfl)).1]; exact hx.1.2.1 _ (lv_pc (Or.inr rfl))
  · by_cases q : ∃ b, Y.1 c = b ∧ (b = A 50 ∨ ∃ s, 0 < mlen s ∧ b = A s)
    · obtain ⟨b, e1, e2⟩ := q
      rw [e1]
      rcases e2 with rfl | ⟨s, hs, rfl⟩
      · rw [hm.1]; decide
      · rw [(hm.2.1 s hs).2.1]; split <;> decide
    · have hb := hm.2.2.2.2.2.1 (Y.1 c) (fun y => q ⟨_, rfl, Or.inl y⟩) (fun s hs y => q ⟨_, rfl, Or.inr ⟨s, hs, y⟩⟩)
      rw [hb.1]
      exact hx.1.2.1 _ (lv_pc hc)
