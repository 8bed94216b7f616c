/-! the beginning -/
def zE0 : az := (fun _ => 0, fun _ _ => 0, fun _ _ _ => 0, fun _ _ => none, fun _ _ => false, fun _ _ _ => [], fun _ _ => 0, [])
theorem zE0_I : zI 0 zE0 := by
  refine ⟨Nat.zero_le _, fun p hp => absurd hp (Nat.not_lt_zero _), fun p hp => absurd hp (Nat.not_lt_zero _), fun p hp => absurd hp (Nat.not_lt_zero _), ⟨rfl, Nat.le_refl _, fun i hi => absurd hi (Nat.not_lt_zero _)⟩, ⟨fun p hp => absurd hp (Nat.not_lt_zero _), fun a p h => (nomatch h)⟩, fun p q h => (nomatch h), fun p hp => absurd hp (Nat.not_lt_zero _), ⟨Nat.zero_le _, fun t ht => (nomatch ht)⟩, fun p hp => absurd hp (Nat.not_lt_zero _), ⟨Nat.le_refl _, Nat.le_refl _⟩, ⟨by decide, by decide, by decide⟩⟩
theorem zE0_O : zOps zE0 := fun k _ => ⟨0, by decide, rfl⟩
theorem zE0_R {M : pm_N} (h1 : ∀ s, 0 < mlen s → ∀ k, M.1 s k = 0) (h2 : ∀ f, M.2 f = 0) : mR 0 zE0 M := by
  refine ⟨fun p hp => absurd hp (Nat.not_lt_zero _), fun f i _ => h2 f, fun p hp => absurd hp (Nat.not_lt_zero _), fun p hp => absurd hp (Nat.not_lt_zero _), fun p hp => absurd hp (Nat.not_lt_zero _), fun p hp => absurd hp (Nat.not_lt_zero _), fun p q _ _ => h1 24 (by decide) _, ⟨h2 30, fun i t h => by cases h⟩, ⟨fun k _ => ⟨h1 2 (by decide) _, h1 3 (by decide) _, h1 4 (by decide) _, h1 5 (by decide) _⟩, fun i _ h => absurd h (Nat.not_lt_zero _)⟩, ⟨h2 33, Nat.le_refl _, fun i h => absurd h (Nat.not_lt_zero _)⟩, fun p hp => absurd hp (Nat.not_lt_zero _), fun p _ _ s hs => h1 s ?_ p⟩
  rcases hs with rfl | rfl | rfl | rfl | rfl | rfl | rfl <;> decide
/-- which field's array stands at a place among the codes -/
def mcs (i : Nat) : Nat := if i < 25 then i else if i = 25 then 27 else if i = 26 then 28 else if i = 27 then 29 else if i = 28 then 32 else 34
theorem mcs_len : ∀ i, i < 30 → 0 < mlen (mcs i) ∧ mcd (mcs i) = i := by decide
theorem mcs_of {s : Nat} (h : 0 < mlen s) : mcs (mcd s) = s := by
  unfold mlen at h
  split at h <;> first | rfl | exact absurd h (by decide)
def y0 (ad a : Nat → Nat) (v2 r3 : Nat) : pm_Y := ((fun c => if c < 15 then ad c else if c = 20000 then v2 else if c = 30000 then r3 else a (mcs (c - 20001))), (fun _ => 0), fun _ _ => 0)
theorem zJ_0 {S0 S2 S4 : pm_S} {v1 v2 r3 : Nat} {ad a : Nat → Nat} (f1 : pm_k S0 v1 = 0) (a0 : ad 0 = v1) (h1 : ∀ c, 0 < c → c < 15 → pm_k (pm_nw S0 v1 7 0) (ad c) = 0) (h2 : ∀ c d, c < 15 → d < 15 → ad c = ad d → c = d) (h3 : sC S2 ad) (h4 : ∀ f c i, tbA f = some (c, i) → pm_i S2 f (ad c) = 0) (h5 : pm_i S2 253 (ad 5) = 0) (h6 : ∀ i, pm_x S2 (ad 1) i = 0) (h7 : ∀ i, pm_z S2 (ad 3) i = none)
    (f2 : pm_k S2 v2 = 0) (m1 : pm_k S4 v2 = 8) (m2 : ∀ g, pm_i S4 g v2 = 0) (m3 : ∀ s, 0 < mlen s → pm_p S4 (350 + s) v2 = some (a s) ∧ pm_k S4 (a s) = (if mB s = true then 10 else 9) ∧ pm_n S4 (a s) = mlen s ∧ (∀ i, pm_x S4 (a s) i = 0) ∧ pm_k (pm_nw S2 v2 8 0) (a s) = 0) (m4 : ∀ s t, 0 < mlen s → 0 < mlen t → a s = a t → s = t) (m5 : ∀ b, pm_k (pm_nw S2 v2 8 0) b ≠ 0 → b ≠ v2 → pm_e8 (pm_nw S2 v2 8 0) S4 b)
    (f3 : pm_k S4 r3 = 0) : zJ 0 zE0 (pm_nw S4 r3 11 1) (y0 ad a v2 r3) := by
  have kc : ∀ c, c < 15 → pm_k S2 (ad c) ≠ 0 := by
    obtain ⟨⟨k0, -⟩, ⟨k1, -⟩, ⟨k2, -⟩, ⟨k3, -⟩, ⟨k4, -⟩, ⟨k5, -, -, -, k6, -, k7, -, k8, -⟩, ⟨k9, -, k10, -⟩, ⟨k11, -, k12, -⟩, ⟨k13, -, k14, -⟩⟩ := h3
    intro c hc z
    match c, hc with
    | 0, _ => rw [k0] at z; cases z
    | 1, _ => rw [k1] at z; cases z
    | 2, _ => rw [k2] at z; cases z
    | 3, _ => rw [k3] at z; cases z
    | 4, _ => rw [k4] at z; cases z
    | 5, _ => rw [k5] at z; cases z
    | 6, _ => rw [k6] at z; cases z
    | 7, _ => rw [k7] at z; cases z
    | 8, _ => rw [k8] at z; cases z
    | 9, _ => rw [k9] at z; cases z
    | 10, _ => rw [k10] at z; cases z
    | 11, _ => rw [k11] at z; cases z
    | 12, _ => rw [k12] at z; cases z
    | 13, _ => rw [k13] at z; cases z
    | 14, _ => rw [k14] at z; cases z
    | _ + 15, h => exact absurd h (by omega)
  have nv2 : ∀ c, c < 15 → ad c ≠ v2 := fun c hc e => kc c hc (by rw [e]; exact f2)
  have nr3 : ∀ b, pm_k S4 b ≠ 0 → b ≠ r3 := fun b hb e => hb (by rw [e]; exact f3)
  have e4 : ∀ c, c < 15 → pm_e8 S2 S4 (ad c) := fun c hc => e8_tr (e8_nw (nv2 c hc)) (m5 (ad c) (by rw [pm_k_nw, if_neg (nv2 c hc)]; exact kc c hc) (nv2 c hc))
  have k4 : ∀ c, c < 15 → pm_k S4 (ad c) ≠ 0 := fun c hc => by rw [(e4 c hc).1]; exact kc c hc
  have e5 : ∀ c, c < 15 → pm_e8 S2 (pm_nw S4 r3 11 1) (ad c) := fun c hc => e8_tr (e4 c hc) (e8_nw (nr3 _ (k4 c hc)))
  have ka : ∀ s, 0 < mlen s → pm_k S4 (a s) ≠ 0 := fun s hs z => by
    have := (m3 s hs).2.1
    rw [z] at this
    split at this <;> cases this
  have na : ∀ s c, 0 < mlen s → c < 15 → a s ≠ ad c := fun s c hs hc e => by
    have := (m3 s hs).2.2.2.2
    rw [e, pm_k_nw, if_neg (nv2 c hc)] at this
    exact kc c hc this
  have na2 : ∀ s, 0 < mlen s → a s ≠ v2 := fun s hs e => by
    have := (m3 s hs).2.1
    rw [e, m1] at this
    split at this <;> cases this
  have kv2 : pm_k S4 v2 ≠ 0 := by rw [m1]; decide
  have yc : ∀ c, c < 15 → (y0 ad a v2 r3).1 c = ad c := fun c hc => if_pos hc
  have y2 : (y0 ad a v2 r3).1 20000 = v2 := rfl
  have y3 : (y0 ad a v2 r3).1 30000 = r3 := rfl
  have ya : ∀ i, i < 30 → (y0 ad a v2 r3).1 (20001 + i) = a (mcs i) := fun i hi => by
    show (if 20001 + i < 15 then ad (20001 + i) else if 20001 + i = 20000 then v2 else if 20001 + i = 30000 then r3 else a (mcs (20001 + i - 20001))) = _
    rw [if_neg (by omega), if_neg (by omega), if_neg (by omega), show 20001 + i - 20001 = i from by omega]
  have lvc : ∀ c, lv (az_a zE0 0) (y0 ad a v2 r3).2.1 c → c < 15 ∨ c = 20000 ∨ (∃ i, i < 30 ∧ c = 20001 + i) ∨ c = 30000 := fun c hc => by
    rcases hc with h | ⟨q, d, hq, -⟩ | h | h
    · exact Or.inl h
    · exact absurd hq (Nat.not_lt_zero _)
    · by_cases e : c = 20000
      · exact Or.inr (Or.inl e)
      · exact Or.inr (Or.inr (Or.inl ⟨c - 20001, by omega, by omega⟩))
    · exact Or.inr (Or.inr (Or.inr h))
  have C3 : sC (pm_nw S4 r3 11 1) (y0 ad a v2 r3).1 := by
    unfold sC
    rw [yc 0 (by omega), yc 1 (by omega), yc 2 (by omega), yc 3 (by omega), yc 4 (by omega), yc 5 (by omega), yc 6 (by omega), yc 7 (by omega), yc 8 (by omega), yc 9 (by omega), yc 10 (by omega), yc 11 (by omega), yc 12 (by omega), yc 13 (by omega), yc 14 (by omega)]
    obtain ⟨⟨a0, a1, a2, a3, a4, a5, a6, a7, a8⟩, b1, b2, b3, b4, ⟨w0, w1, w2, w3, w4, w5, w6, w7, w8, w9, w10⟩, ⟨s0, s1, s2, s3⟩, l1, l2⟩ := h3
    have c0 := e5 0 (by omega)
    have c5 := e5 5 (by omega)
    have c9 := e5 9 (by omega)
    have q := fun g => c0.2.2.2.2.1 g
    have q5 := fun g => c5.2.2.2.2.1 g
    exact ⟨⟨c0.1.trans a0, (q _).trans a1, (q _).trans a2, (q _).trans a3, (q _).trans a4, (q _).trans a5, (q _).trans a6, (q _).trans a7, (q _).trans a8⟩, ⟨(e5 1 (by omega)).1.trans b1.1, (e5 1 (by omega)).2.1.trans b1.2⟩, ⟨(e5 2 (by omega)).1.trans b2.1, (e5 2 (by omega)).2.1.trans b2.2⟩, ⟨(e5 3 (by omega)).1.trans b3.1, (e5 3 (by omega)).2.1.trans b3.2⟩, ⟨(e5 4 (by omega)).1.trans b4.1, (e5 4 (by omega)).2.1.trans b4.2⟩, ⟨c5.1.trans w0, (q5 _).trans w1, (q5 _).trans w2, (q5 _).trans w3, (e5 6 (by omega)).1.trans w4, (e5 6 (by omega)).2.1.trans w5, (e5 7 (by omega)).1.trans w6, (e5 7 (by omega)).2.1.trans w7, (e5 8 (by omega)).1.trans w8, (e5 8 (by omega)).2.1.trans w9, w10⟩, ⟨c9.1.trans s0, (c9.2.2.2.2.1 _).trans s1, (e5 10 (by omega)).1.trans s2, (e5 10 (by omega)).2.1.trans s3⟩, l1.mv (e8_7 (e5 11 (by omega))) (e8_7 (e5 12 (by omega))), l2.mv (e8_7 (e5 13 (by omega))) (e8_7 (e5 14 (by omega)))⟩
  have CX : pm_CX zE0 (pm_nw S4 r3 11 1) (y0 ad a v2 r3) (pm_nw S4 r3 11 1) := by
    refine ⟨⟨fun c d hc hd e => ?_, fun c hc => ?_, C3, fun p hp => absurd hp (Nat.not_lt_zero _), fun p hp => absurd hp (Nat.not_lt_zero _), fun f c i ht => ?_, ⟨fun p hp => absurd hp (Nat.not_lt_zero _), fun x _ => ?_⟩, fun p hp => absurd hp (Nat.not_lt_zero _), ⟨fun i _ => ?_, fun i _ h => absurd h (Nat.not_lt_zero _)⟩, fun p hp => absurd hp (Nat.not_lt_zero _), ⟨?_, fun i hi => absurd hi (Nat.not_lt_zero _)⟩, ⟨fun p hp => absurd hp (Nat.not_lt_zero _), fun i hi => absurd hi (Nat.not_lt_zero _)⟩, fun p hp => absurd hp (Nat.not_lt_zero _), fun p hp => absurd hp (Nat.not_lt_zero _), fun c _ => e8_rf⟩, fun p hp => absurd hp (Nat.not_lt_zero _)⟩
    · rcases lvc c hc with q1 | q1 | ⟨i, hi, q1⟩ | q1 <;> rcases lvc d hd with q2 | q2 | ⟨j, hj, q2⟩ | q2
      · rw [yc c q1, yc d q2] at e; exact h2 c d q1 q2 e
      · rw [yc c q1, q2, y2] at e; exact absurd e (nv2 c q1)
      · rw [yc c q1, q2, ya j hj] at e; exact absurd e.symm (na _ c (mcs_len j hj).1 q1)
      · rw [yc c q1, q2, y3] at e; exact absurd e (nr3 _ (k4 c q1))
      · rw [q1, y2, yc d q2] at e; exact absurd e.symm (nv2 d q2)
      · rw [q1, q2]
      · rw [q1, y2, q2, ya j hj] at e; exact absurd e.symm (na2 _ (mcs_len j hj).1)
      · rw [q1, y2, q2, y3] at e; exact absurd e (nr3 _ kv2)
      · rw [q1, ya i hi, yc d q2] at e; exact absurd e (na _ d (mcs_len i hi).1 q2)
      · rw [q1, ya i hi, q2, y2] at e; exact absurd e (na2 _ (mcs_len i hi).1)
      · rw [q1, ya i hi, q2, ya j hj] at e
        have := m4 _ _ (mcs_len i hi).1 (mcs_len j hj).1 e
        have e1 := (mcs_len i hi).2
        have e2 := (mcs_len j hj).2
        rw [this, e2] at e1
        rw [q1, q2, e1]
      · rw [q1, ya i hi, q2, y3] at e; exact absurd e (nr3 _ (ka _ (mcs_len i hi).1))
      · rw [q1, y3, yc d q2] at e; exact absurd e.symm (nr3 _ (k4 d q2))
      · rw [q1, y3, q2, y2] at e; exact absurd e.symm (nr3 _ kv2)
      · rw [q1, y3, q2, ya j hj] at e; exact absurd e.symm (nr3 _ (ka _ (mcs_len j hj).1))
      · rw [q1, q2]
    · rcases lvc c hc with q1 | q1 | ⟨i, hi, q1⟩ | q1
      · rw [yc c q1, (e5 c q1).1]; exact kc c q1
      · rw [q1, y2, pm_k_nw, if_neg (nr3 _ kv2)]; exact kv2
      · rw [q1, ya i hi, pm_k_nw, if_neg (nr3 _ (ka _ (mcs_len i hi).1))]; exact ka _ (mcs_len i hi).1
      · rw [q1, y3, pm_k_nw, if_pos rfl]; decide
    · have hc := (tbA_c ht).1
      rw [yc c (by omega), (e5 c (by omega)).2.2.1]
      exact h4 f c i ht
    · rw [yc 3 (by omega), (e5 3 (by omega)).2.2.2.2.2.2.2]; exact h7 x
    · rw [yc 1 (by omega), (e5 1 (by omega)).2.2.2.2.2.1]; exact h6 i
    · rw [yc 5 (by omega), (e5 5 (by omega)).2.2.1]; exact h5
  refine ⟨CX, ⟨(fun i => if i = 50 then v2 else if i = 60 then 0 else a i), (fun _ _ => 0, fun _ => 0), ?_, zE0_R (fun _ _ _ => rfl) (fun _ => rfl), rfl, fun s hs => ?_⟩, rfl, zE0_I, zE0_O, ⟨Nat.le_refl _, Nat.le_refl _, Nat.le_refl _⟩, by rw [y3, pm_k_nw, if_pos rfl], by rw [y3, pm_n_nw, if_pos rfl]⟩
  · have ao : ∀ s, 0 < mlen s → (if s = 50 then v2 else if s = 60 then 0 else a s) = a s := fun s hs => by
      rw [if_neg (fun z => by rw [z] at hs; exact absurd hs (by decide)), if_neg (fun z => by rw [z] at hs; exact absurd hs (by decide))]
    have n3 : ∀ b, pm_k S4 b ≠ 0 → pm_e8 S4 (pm_nw S4 r3 11 1) b := fun b hb => e8_nw (nr3 b hb)
    refine ⟨?_, fun s hs => ?_, fun s t hs ht e => ?_, fun s hs k => ?_, fun f => ?_, fun b _ _ => e8_rf, rfl⟩
    · show pm_k (pm_nw S4 r3 11 1) v2 = 8
      rw [(n3 v2 kv2).1]; exact m1
    · dsimp only
      rw [ao s hs]
      show pm_p (pm_nw S4 r3 11 1) (350 + s) v2 = some (a s) ∧ _
      obtain ⟨c1, c2, c3, -⟩ := m3 s hs
      exact ⟨((n3 v2 kv2).2.2.2.2.1 _).trans c1, (n3 _ (ka s hs)).1.trans c2, (n3 _ (ka s hs)).2.1.trans c3⟩
    · dsimp only at e
      rw [ao s hs, ao t ht] at e
      exact m4 s t hs ht e
    · dsimp only
      rw [ao s hs]
      exact ((n3 _ (ka s hs)).2.2.2.2.2.1 k).trans ((m3 s hs).2.2.2.1 k)
    · show pm_i (pm_nw S4 r3 11 1) (350 + f) v2 = 0
      rw [(n3 v2 kv2).2.2.1]; exact m2 _
  · dsimp only
    rw [if_neg (fun z => by rw [z] at hs; exact absurd hs (by decide)), if_neg (fun z => by rw [z] at hs; exact absurd hs (by decide)), ya _ (mcd_lt hs), mcs_of hs]
