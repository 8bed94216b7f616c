/-! new objects: what was there stays -/
/-- at the address a both memories hold the same, the references of an array apart -/
def pm_e7 (S S2 : pm_S) (a : Nat) : Prop := pm_k S2 a = pm_k S a ∧ pm_n S2 a = pm_n S a ∧ (∀ g, pm_i S2 g a = pm_i S g a) ∧ (∀ g, pm_j S2 g a = pm_j S g a) ∧ (∀ g, pm_p S2 g a = pm_p S g a) ∧ (∀ k, pm_x S2 a k = pm_x S a k) ∧ ∀ k, pm_y S2 a k = pm_y S a k
theorem pm_to.mv {S S2 : pm_S} {t r : Nat} (h : pm_to S t r) (h1 : pm_e7 S S2 t) (h2 : pm_e7 S S2 r) : pm_to S2 t r := by
  obtain ⟨a1, a2, a3, a4⟩ := h
  exact ⟨by rw [h1.1]; exact a1, by rw [h1.2.2.2.2.1]; exact a2, by rw [h2.1]; exact a3, by rw [h2.2.1]; exact a4⟩
theorem pm_tm.mv {S S2 : pm_S} {t r : Nat} {w : List Int32} (h : pm_tm S t r w) (h1 : pm_e7 S S2 t) (h2 : pm_e7 S S2 r) : pm_tm S2 t r w := by
  obtain ⟨a1, a2, a3, a4⟩ := h
  exact ⟨a1.mv h1 h2, by rw [h1.2.2.1]; exact a2, a3, fun i hi => by rw [h2.2.2.2.2.2.1]; exact a4 i hi⟩
section CRA
variable {Z : az} {S S2 E : pm_S} {Y : pm_Y}
/-- the parts of the relation that new objects and changed arrays of references leave as they were -/
theorem pm_CR.move {ad2 : Nat → Nat} (h : pm_CR Z S Y E) (heq : ∀ c, lv (az_a Z 0) Y.2.1 c → ad2 c = Y.1 c) (hS : ∀ c, lv (az_a Z 0) Y.2.1 c → pm_e7 S S2 (Y.1 c)) (hz : ∀ p, p < az_a Z 0 → ∀ k, pm_z S2 (Y.1 (pq p 1)) k = pm_z S (Y.1 (pq p 1)) k) (hE : ∀ c, (20000 ≤ c ∧ c < 20031) ∨ c = 30000 → ∀ k, pm_z S2 (Y.1 c) k = pm_z S (Y.1 c) k) :
    sC S2 ad2 ∧ (∀ p, p < az_a Z 0 → sP S2 ad2 p) ∧ vB Z S2 ad2 ∧ vA Z S2 ad2 ∧ vJ Z S2 ad2 ∧ vX Z S2 ad2 ∧ vK Z S2 ad2 ∧ vW Z S2 ad2 ∧ vT Z S2 ad2 ∧ vE E S2 ad2 := by
  obtain ⟨g1, g2, g3, g4, g5, g6, g7, g8, g9, g10, g11, g12, g13, g14, g15⟩ := h
  have lc : ∀ c, c < 15 → lv (az_a Z 0) Y.2.1 c := fun c hc => lv_c hc
  have ec : ∀ c, c < 15 → ad2 c = Y.1 c := fun c hc => heq c (lc c hc)
  have ep : ∀ p d, p < az_a Z 0 → d < 18 → ad2 (pq p d) = Y.1 (pq p d) := fun p d hp hd => heq _ (lv_p hp hd)
  have er : ∀ p d, p < az_a Z 0 → d < 8 → ad2 (pq p (20 + d)) = Y.1 (pq p (20 + d)) := fun p d hp hd => heq _ (lv_r hp hd)
  have sc : ∀ c, c < 15 → pm_e7 S S2 (Y.1 c) := fun c hc => hS c (lc c hc)
  have sp : ∀ p d, p < az_a Z 0 → d < 18 → pm_e7 S S2 (Y.1 (pq p d)) := fun p d hp hd => hS _ (lv_p hp hd)
  have sr : ∀ p d, p < az_a Z 0 → d < 8 → pm_e7 S S2 (Y.1 (pq p (20 + d))) := fun p d hp hd => hS _ (lv_r hp hd)
  refine ⟨?_, fun p hp => ?_, fun p hp f c i ht => ?_, fun f c i ht => ?_, fun p hp => ?_, ⟨fun i hi => ?_, fun i hi hi2 => ?_⟩, fun p hp => ?_, ⟨?_, fun i hi => ?_⟩, fun p hp => ?_, fun c hc => ?_⟩
  · unfold sC
    rw [ec 0 (by omega), ec 1 (by omega), ec 2 (by omega), ec 3 (by omega), ec 4 (by omega), ec 5 (by omega), ec 6 (by omega), ec 7 (by omega), ec 8 (by omega), ec 9 (by omega), ec 10 (by omega), ec 11 (by omega), ec 12 (by omega), ec 13 (by omega), ec 14 (by omega)]
    obtain ⟨⟨a0, a1, a2, a3, a4, a5, a6, a7, a8⟩, b1, b2, b3, b4, ⟨w0, w1, w2, w3, w4, w5, w6, w7, w8, w9, w10⟩, ⟨s0, s1, s2, s3⟩, l1, l2⟩ := g3
    have c0 := sc 0 (by omega)
    have c5 := sc 5 (by omega)
    have c9 := sc 9 (by omega)
    have q := fun g => c0.2.2.2.2.1 g
    have q5 := fun g => c5.2.2.2.2.1 g
    exact ⟨⟨c0.1.trans a0, (q _).trans a1, (q _).trans a2, (q _).trans a3, (q _).trans a4, (q _).trans a5, (q _).trans a6, (q _).trans a7, (q _).trans a8⟩, ⟨(sc 1 (by omega)).1.trans b1.1, (sc 1 (by omega)).2.1.trans b1.2⟩, ⟨(sc 2 (by omega)).1.trans b2.1, (sc 2 (by omega)).2.1.trans b2.2⟩, ⟨(sc 3 (by omega)).1.trans b3.1, (sc 3 (by omega)).2.1.trans b3.2⟩, ⟨(sc 4 (by omega)).1.trans b4.1, (sc 4 (by omega)).2.1.trans b4.2⟩, ⟨c5.1.trans w0, (q5 _).trans w1, (q5 _).trans w2, (q5 _).trans w3, (sc 6 (by omega)).1.trans w4, (sc 6 (by omega)).2.1.trans w5, (sc 7 (by omega)).1.trans w6, (sc 7 (by omega)).2.1.trans w7, (sc 8 (by omega)).1.trans w8, (sc 8 (by omega)).2.1.trans w9, w10⟩, ⟨c9.1.trans s0, (c9.2.2.2.2.1 _).trans s1, (sc 10 (by omega)).1.trans s2, (sc 10 (by omega)).2.1.trans s3⟩, l1.mv (sc 11 (by omega)) (sc 12 (by omega)), l2.mv (sc 13 (by omega)) (sc 14 (by omega))⟩
  · unfold sP
    rw [ep p 0 hp (by omega), ep p 1 hp (by omega), ep p 2 hp (by omega), ep p 4 hp (by omega), ep p 5 hp (by omega), ep p 6 hp (by omega), ep p 7 hp (by omega), ep p 8 hp (by omega), ep p 9 hp (by omega)]
    obtain ⟨⟨a1, a2, a3, a4, a5, a6⟩, ⟨r1, r2, r3⟩, ⟨m1, m2, m3, m4⟩, t1, t2, t3, t4, t5, t6, t7, t8, t9, t10⟩ := g4 p hp
    have p0 := sp p 0 hp (by omega)
    have p1 := sp p 1 hp (by omega)
    have p4 := sp p 4 hp (by omega)
    have p5 := sp p 5 hp (by omega)
    have p6 := sp p 6 hp (by omega)
    have q0 := fun g => p0.2.2.2.2.1 g
    have q6 := fun g => p6.2.2.2.2.1 g
    exact ⟨⟨p0.1.trans a1, (q0 _).trans a2, (q0 _).trans a3, (q0 _).trans a4, (q0 _).trans a5, (p0.2.2.1 _).trans a6⟩, ⟨p1.1.trans r1, p1.2.1.trans r2, fun j hj => by rw [ep p (10 + j) hp (by omega), hz p hp]; exact r3 j hj⟩, ⟨p4.1.trans m1, (p4.2.2.2.2.1 _).trans m2, p5.1.trans m3, p5.2.1.trans m4⟩, p6.1.trans t1, (q6 _).trans t2, (q6 _).trans t3, (q6 _).trans t4, (sp p 7 hp (by omega)).1.trans t5, (sp p 7 hp (by omega)).2.1.trans t6, (sp p 8 hp (by omega)).1.trans t7, (sp p 8 hp (by omega)).2.1.trans t8, (sp p 9 hp (by omega)).1.trans t9, (sp p 9 hp (by omega)).2.1.trans t10⟩
  · have hc := (tbB_c ht).1
    rw [ep p c hp (by omega), (sp p c hp (by omega)).2.2.1]
    exact g5 p hp f c i ht
  · have hc := (tbA_c ht).1
    rw [ec c (by omega), (sc c (by omega)).2.2.1]
    exact g6 f c i ht
  · rw [ep p 0 hp (by omega), (sp p 0 hp (by omega)).2.2.2.1, (sp p 0 hp (by omega)).2.2.2.1]
    exact g8 p hp
  · rw [ec 1 (by omega), (sc 1 (by omega)).2.2.2.2.2.1]
    exact g9.1 i hi
  · rw [ec 10 (by omega), (sc 10 (by omega)).2.2.2.2.2.1]
    exact g9.2 i hi hi2
  · obtain ⟨a, b, c⟩ := g10 p hp
    exact ⟨fun i hi => by rw [ep p 7 hp (by omega), (sp p 7 hp (by omega)).2.2.2.2.2.1]; exact a i hi, fun i hi => by rw [ep p 8 hp (by omega), (sp p 8 hp (by omega)).2.2.2.2.2.1]; exact b i hi, fun i hi => by rw [ep p 9 hp (by omega), (sp p 9 hp (by omega)).2.2.2.2.2.1]; exact c i hi⟩
  · rw [ec 5 (by omega), (sc 5 (by omega)).2.2.1]
    exact g11.1
  · rw [ec 6 (by omega), ec 7 (by omega), ec 8 (by omega), (sc 6 (by omega)).2.2.2.2.2.1, (sc 7 (by omega)).2.2.2.2.2.1, (sc 8 (by omega)).2.2.2.2.2.1]
    exact g11.2 i hi
  · exact ⟨fun j hj => by rw [ep p (10 + j) hp (by omega), er p j hp hj]; exact ((g13 p hp).1 j hj).mv (sp p (10 + j) hp (by omega)) (sr p j hp hj), by rw [ep p 2 hp (by omega), ep p 3 hp (by omega)]; exact (g13 p hp).2.mv (sp p 2 hp (by omega)) (sp p 3 hp (by omega))⟩
  · rw [heq c (lv_pc hc)]
    obtain ⟨b1, b2, b3, b4, b5, b6, b7⟩ := hS c (lv_pc hc)
    obtain ⟨a1, a2, a3, a4, a5, a6, a7, a8⟩ := g15 c hc
    exact ⟨b1.trans a1, b2.trans a2, fun g => (b3 g).trans (a3 g), fun g => (b4 g).trans (a4 g), fun g => (b5 g).trans (a5 g), fun k => (b6 k).trans (a6 k), fun k => (b7 k).trans (a7 k), fun k => (hE c hc k).trans (a8 k)⟩
end CRA
