/-! several writes at once: links, watches, printing, dropping a message -/
section CRV
variable {Z : az} {S S' E : pm_S} {Y : pm_Y}
theorem pm_CR.f1 {p q : Nat} (h : pm_CR Z S Y E) (hn : az_a Z 0 ≤ 60) (hp : p < az_a Z 0) (hq : q < az_a Z 0) : pm_CR (zs_f Z p q true) (pm_sj S 64 (Y.1 (pq p 0)) (pm_j S 64 (Y.1 (pq p 0)) ||| pm_bit (q + 1))) Y E := by
  have hb := (h.2.2.2.2.2.2.2.1 p hp).2
  refine h.l1 (g := fun r => if r = q then true else az_f Z p r) hn hp ⟨Z, rfl⟩ (fun i hi => ?_) _ rfl rfl rfl rfl rfl rfl rfl (fun q2 r _ _ => ?_)
  · rw [pm_lb_or (by omega), hb i hi]
    by_cases e : i = q + 1
    · subst e
      simp
    · by_cases e2 : 0 < i
      · rw [decide_eq_false e, if_neg (by omega)]
        simp
      · have e3 : i = 0 := by omega
        subst e3
        simp
  · rw [z_f_f]
    by_cases e : q2 = p
    · subst e
      by_cases e2 : r = q
      · subst e2
        simp
      · simp [e2]
    · simp [e]
theorem pm_CR.f0 {p q : Nat} (h : pm_CR Z S Y E) (hn : az_a Z 0 ≤ 60) (hp : p < az_a Z 0) (hq : q < az_a Z 0) : pm_CR (zs_f Z p q false) (pm_sj S 64 (Y.1 (pq p 0)) (pm_j S 64 (Y.1 (pq p 0)) &&& (pm_bit (q + 1) ^^^ (-1)))) Y E := by
  have hb := (h.2.2.2.2.2.2.2.1 p hp).2
  refine h.l1 (g := fun r => if r = q then false else az_f Z p r) hn hp ⟨Z, rfl⟩ (fun i hi => ?_) _ rfl rfl rfl rfl rfl rfl rfl (fun q2 r _ _ => ?_)
  · rw [pm_lb_off (by omega) hi, hb i hi]
    by_cases e : i = q + 1
    · subst e
      simp
    · by_cases e2 : 0 < i
      · rw [decide_eq_false e, if_neg (by omega)]
        simp
      · have e3 : i = 0 := by omega
        subst e3
        simp
  · rw [z_f_f]
    by_cases e : q2 = p
    · subst e
      by_cases e2 : r = q
      · subst e2
        simp
      · simp [e2]
    · simp [e]
/-- what these writes leave -/
theorem pm_CR.upd {F : Nat → Nat → Prop} {A : Nat → Prop} (h : pm_CR Z S Y E) (hn : az_a Z 0 ≤ 60) (hf : pm_fr S S' F A) (hF : ∀ g b, F g b → (g = 253 ∧ b = Y.1 5) ∨ (g = 101 ∧ b = Y.1 9) ∨ ∃ p, p < az_a Z 0 ∧ (g = 1 ∨ g = 2) ∧ b = Y.1 (pq p 4)) (hA : ∀ b, A b → b = Y.1 6 ∨ b = Y.1 7 ∨ b = Y.1 8 ∨ b = Y.1 10 ∨ ∃ p, p < az_a Z 0 ∧ b = Y.1 (pq p 5)) :
    (∀ c, lv (az_a Z 0) Y.2.1 c → pm_k S' (Y.1 c) ≠ 0) ∧ sC S' Y.1 ∧ (∀ p, p < az_a Z 0 → sP S' Y.1 p) ∧ vN Z S' Y.1 ∧ vJ Z S' Y.1 ∧ (∀ i, i < 1200 → pm_x S' (Y.1 1) i = az_x Z 0 i) ∧ vK Z S' Y.1 ∧ vP Z S' Y.1 ∧ vT Z S' Y.1 ∧ vE E S' Y.1 ∧ ∀ p k w, p < az_a Z 0 → k < Y.2.1 p → pm_tm S (Y.1 (pq p (30 + k))) (Y.1 (pq p (80 + k))) w → pm_tm S' (Y.1 (pq p (30 + k))) (Y.1 (pq p (80 + k))) w := by
  obtain ⟨g1, g2, g3, g4, g5, g6, g7, g8, g9, g10, g11, g12, g13, g14, g15⟩ := id h
  obtain ⟨f1, f2, f3, f4⟩ := id hf
  have nF : ∀ g b, g ≠ 253 → g ≠ 101 → g ≠ 1 → g ≠ 2 → ¬ F g b := fun g b a1 a2 a3 a4 z => by
    rcases hF g b z with z | z | ⟨p, -, z, -⟩ <;> omega
  have nA : ∀ d, lv (az_a Z 0) Y.2.1 d → d ≠ 6 → d ≠ 7 → d ≠ 8 → d ≠ 10 → (∀ p, d ≠ pq p 5) → ¬ A (Y.1 d) := fun d hd a1 a2 a3 a4 a5 z => by
    rcases hA _ z with z | z | z | z | ⟨p, hp, z⟩
    · exact a1 (g1 _ _ hd (lv_c (by decide)) z)
    · exact a2 (g1 _ _ hd (lv_c (by decide)) z)
    · exact a3 (g1 _ _ hd (lv_c (by decide)) z)
    · exact a4 (g1 _ _ hd (lv_c (by decide)) z)
    · exact a5 p (g1 _ _ hd (lv_p hp (by decide)) z)
  have fp : ∀ g b, g ≠ 253 → g ≠ 101 → g ≠ 1 → g ≠ 2 → pm_p S' g b = pm_p S g b := fun g b a1 a2 a3 a4 => (f3 g b (nF g b a1 a2 a3 a4)).2.2
  have fi : ∀ g b, g ≠ 253 → g ≠ 101 → g ≠ 1 → g ≠ 2 → pm_i S' g b = pm_i S g b := fun g b a1 a2 a3 a4 => (f3 g b (nF g b a1 a2 a3 a4)).1
  have fj : ∀ g b, g ≠ 253 → g ≠ 101 → g ≠ 1 → g ≠ 2 → pm_j S' g b = pm_j S g b := fun g b a1 a2 a3 a4 => (f3 g b (nF g b a1 a2 a3 a4)).2.1
  have tm : ∀ t r w, lv (az_a Z 0) Y.2.1 r → r ≠ 6 → r ≠ 7 → r ≠ 8 → r ≠ 10 → (∀ p, r ≠ pq p 5) → pm_tm S (Y.1 t) (Y.1 r) w → pm_tm S' (Y.1 t) (Y.1 r) w := fun t r w hr a1 a2 a3 a4 a5 q => q.fr hf (nF _ _ (by decide) (by decide) (by decide) (by decide)) (nF _ _ (by decide) (by decide) (by decide) (by decide)) (nA r hr a1 a2 a3 a4 a5)
  have pc : ∀ p d, pq p d ≠ 6 ∧ pq p d ≠ 7 ∧ pq p d ≠ 8 ∧ pq p d ≠ 10 := fun p d => by unfold pq; omega
  refine ⟨fun c hc => by rw [f1]; exact g2 c hc, ?_, fun p hp => ?_, ⟨fun p hp => ?_, fun a ha => ?_⟩, fun p hp => ?_, fun i hi => ?_, fun p hp => ?_, ⟨fun p hp => ?_, fun i hi => ?_⟩, fun p hp => ⟨fun j hj => ?_, ?_⟩, fun c hc => ?_, fun p k w hp hk q => ?_⟩
  · unfold sC pm_wt pm_sh pm_to
    simp only [f1, f2]
    rw [fp _ _ (by decide) (by decide) (by decide) (by decide), fp _ _ (by decide) (by decide) (by decide) (by decide), fp _ _ (by decide) (by decide) (by decide) (by decide), fp _ _ (by decide) (by decide) (by decide) (by decide), fp _ _ (by decide) (by decide) (by decide) (by decide), fp _ _ (by decide) (by decide) (by decide) (by decide), fp _ _ (by decide) (by decide) (by decide) (by decide), fp _ _ (by decide) (by decide) (by decide) (by decide), fp _ _ (by decide) (by decide) (by decide) (by decide), fp _ _ (by decide) (by decide) (by decide) (by decide), fp _ _ (by decide) (by decide) (by decide) (by decide), fp _ _ (by decide) (by decide) (by decide) (by decide), fp _ _ (by decide) (by decide) (by decide) (by decide), fp _ _ (by decide) (by decide) (by decide) (by decide)]
    exact g3
  · obtain ⟨⟨a1, a2, a3, a4, a5, a6⟩, ⟨r1, r2, r3⟩, ⟨m1, m2, m3, m4⟩, t1, t2, t3, t4, t5, t6, t7, t8, t9, t10⟩ := g4 p hp
    unfold sP pm_mb pm_ts
    simp only [f1, f2]
    have nz : ¬ F 0 (Y.1 (pq p 4)) := nF _ _ (by decide) (by decide) (by decide) (by decide)
    refine ⟨⟨a1, ?_, ?_, ?_, ?_, ?_⟩, ⟨r1, r2, fun j hj => ?_⟩, ⟨m1, ?_, m3, m4⟩, t1, ?_, ?_, ?_, t5, t6, t7, t8, t9, t10⟩
    · rw [fp _ _ (by decide) (by decide) (by decide) (by decide)]; exact a2
    · rw [fp _ _ (by decide) (by decide) (by decide) (by decide)]; exact a3
    · rw [fp _ _ (by decide) (by decide) (by decide) (by decide)]; exact a4
    · rw [fp _ _ (by decide) (by decide) (by decide) (by decide)]; exact a5
    · rw [fi _ _ (by decide) (by decide) (by decide) (by decide)]; exact a6
    · rw [(f4 _ (nA _ (lv_p hp (by decide)) (pc p 1).1 (pc p 1).2.1 (pc p 1).2.2.1 (pc p 1).2.2.2 (fun q => pq_ne (by decide) (by decide) (by decide)))).2.2]; exact r3 j hj
    · rw [(f3 _ _ nz).2.2]; exact m2
    · rw [fp _ _ (by decide) (by decide) (by decide) (by decide)]; exact t2
    · rw [fp _ _ (by decide) (by decide) (by decide) (by decide)]; exact t3
    · rw [fp _ _ (by decide) (by decide) (by decide) (by decide)]; exact t4
  · rw [fi _ _ (by decide) (by decide) (by decide) (by decide)]; exact g7.1 p hp
  · rw [(f4 _ (nA 3 (lv_c (by decide)) (by decide) (by decide) (by decide) (by decide) (fun q => pq_low (by decide)))).2.2]; exact g7.2 a ha
  · rw [fj _ _ (by decide) (by decide) (by decide) (by decide), fj _ _ (by decide) (by decide) (by decide) (by decide)]; exact g8 p hp
  · rw [(f4 _ (nA 1 (lv_c (by decide)) (by decide) (by decide) (by decide) (by decide) (fun q => pq_low (by decide)))).1]; exact g9.1 i hi
  · rw [(f4 _ (nA _ (lv_p hp (by decide)) (pc p 7).1 (pc p 7).2.1 (pc p 7).2.2.1 (pc p 7).2.2.2 (fun q => pq_ne (by decide) (by decide) (by decide)))).1, (f4 _ (nA _ (lv_p hp (by decide)) (pc p 8).1 (pc p 8).2.1 (pc p 8).2.2.1 (pc p 8).2.2.2 (fun q => pq_ne (by decide) (by decide) (by decide)))).1, (f4 _ (nA _ (lv_p hp (by decide)) (pc p 9).1 (pc p 9).2.1 (pc p 9).2.2.1 (pc p 9).2.2.2 (fun q => pq_ne (by decide) (by decide) (by decide)))).1]
    exact g10 p hp
  · rw [(f4 _ (nA 2 (lv_c (by decide)) (by decide) (by decide) (by decide) (by decide) (fun q => pq_low (by decide)))).2.2]; exact g12.1 p hp
  · rw [(f4 _ (nA 4 (lv_c (by decide)) (by decide) (by decide) (by decide) (by decide) (fun q => pq_low (by decide)))).2.2]; exact g12.2 i hi
  · exact tm _ _ _ (lv_r hp hj) (pc _ _).1 (pc _ _).2.1 (pc _ _).2.2.1 (pc _ _).2.2.2 (fun q => pq_ne (by omega) (by decide) (by omega)) ((g13 p hp).1 j hj)
  · exact tm _ _ _ (lv_p hp (by decide)) (pc _ _).1 (pc _ _).2.1 (pc _ _).2.2.1 (pc _ _).2.2.2 (fun q => pq_ne (by omega) (by decide) (by omega)) (g13 p hp).2
  · obtain ⟨a1, a2, a3, a4, a5, a6, a7, a8⟩ := g15 c hc
    have nf : ∀ g, ¬ F g (Y.1 c) := fun g z => by
      rcases hF _ _ z with z | z | ⟨p, hp, -, z⟩
      · exact h.out (lv_c (by decide)) (by decide) hc z.2
      · exact h.out (lv_c (by decide)) (by decide) hc z.2
      · exact h.out (lv_p hp (by decide)) (pq_lt hp hn (by decide)) hc z
    have na : ¬ A (Y.1 c) := fun z => by
      rcases hA _ z with z | z | z | z | ⟨p, hp, z⟩
      · exact h.out (lv_c (by decide)) (by decide) hc z
      · exact h.out (lv_c (by decide)) (by decide) hc z
      · exact h.out (lv_c (by decide)) (by decide) hc z
      · exact h.out (lv_c (by decide)) (by decide) hc z
      · exact h.out (lv_p hp (by decide)) (pq_lt hp hn (by decide)) hc z
    exact ⟨by rw [f1]; exact a1, by rw [f2]; exact a2, fun g => by rw [(f3 g _ (nf g)).1]; exact a3 g, fun g => by rw [(f3 g _ (nf g)).2.1]; exact a4 g, fun g => by rw [(f3 g _ (nf g)).2.2]; exact a5 g, fun k => by rw [(f4 _ na).1]; exact a6 k, fun k => by rw [(f4 _ na).2.1]; exact a7 k, fun k => by rw [(f4 _ na).2.2]; exact a8 k⟩
  · have m2 := (g14 p hp).2.1
    exact tm _ _ _ (lv_n hp hk m2) (pc _ _).1 (pc _ _).2.1 (pc _ _).2.2.1 (pc _ _).2.2.2 (fun q => pq_ne (by omega) (by decide) (by omega)) q
/-- the watches -/
theorem pm_CR.wt {V : List (Nat × Nat × Nat)} (h : pm_CR Z S Y E) (hn : az_a Z 0 ≤ 60) (hf : pm_fr S S' (fun g d => g = 253 ∧ d = Y.1 5) (fun d => d = Y.1 6 ∨ d = Y.1 7 ∨ d = Y.1 8)) (h1 : pm_i S' 253 (Y.1 5) = nI V.length) (h2 : pm_wa S' (Y.1 6) (Y.1 7) (Y.1 8) (V.map (fun t => (nI t.1, nI (t.2.1 + 1), nI (t.2.2 + 1))))) : pm_CR (zs_w Z V) S' Y E := by
  obtain ⟨u1, u2, u3, u4, u5, u6, u7, u8, u9, u10, u11⟩ := h.upd hn hf (fun g b z => Or.inl z) (fun b z => by rcases z with z | z | z; exact Or.inl z; exact Or.inr (Or.inl z); exact Or.inr (Or.inr (Or.inl z)))
  obtain ⟨g1, g2, g3, g4, g5, g6, g7, g8, g9, g10, g11, g12, g13, g14, g15⟩ := id h
  refine ⟨g1, u1, u2, u3, fun p hp f c i ht => ?_, fun f c i ht => ?_, u4, u5, ⟨u6, fun i hi hi2 => ?_⟩, u7, ⟨h1, h2⟩, u8, u9, fun p hp => ?_, u10⟩
  · rw [(hf.2.2.1 _ _ (fun z => (tbB_c ht).2.2.2.1 z.1)).1]; exact g5 p hp f c i ht
  · rw [(hf.2.2.1 _ _ (fun z => (tbA_c ht).2.2.2.1 z.1)).1]; exact g6 f c i ht
  · rw [(hf.2.2.2 _ (fun z => by rcases z with z | z | z <;> (have := h.cc (by decide) (by decide) z; omega))).1]; exact g9.2 i hi hi2
  · obtain ⟨m1, m2, m3, m4, m5, m6⟩ := g14 p hp
    exact ⟨m1, m2, fun k hk => by rw [(hf.2.2.2 _ (fun z => by rcases z with z | z | z <;> exact h.pc hp (by decide) (by decide) z)).2.2]; exact m3 k hk, fun k hk => ⟨(m4 k hk).1, (m4 k hk).2.elim (fun w q => ⟨w, u11 p _ w hp (m4 k hk).1 q⟩)⟩, m5, fun k hk => u11 p _ _ hp (m4 k (Nat.lt_of_lt_of_le hk m1)).1 (m6 k hk)⟩
end CRV
/-! what printing does to the state -/
theorem zPrint_get : ∀ (w : List Int32) (Z : az), (∀ i, az_a (zPrint w Z) i = if i = 9 then az_a Z 9 + w.length else az_a Z i) ∧ az_b (zPrint w Z) = az_b Z ∧ az_c (zPrint w Z) = az_c Z ∧ az_e (zPrint w Z) = az_e Z ∧ az_f (zPrint w Z) = az_f Z ∧ az_t (zPrint w Z) = az_t Z ∧ az_w (zPrint w Z) = az_w Z ∧ (∀ i k, i ≠ 1 → az_x (zPrint w Z) i k = az_x Z i k) ∧ ∀ k, k < 600 → az_x (zPrint w Z) 1 k = if az_a Z 9 ≤ k ∧ k < az_a Z 9 + w.length then w.getD (k - az_a Z 9) 0 else az_x Z 1 k
  | [], Z => ⟨fun i => by by_cases e : i = 9 <;> simp [zPrint, e], rfl, rfl, rfl, rfl, rfl, rfl, fun _ _ _ => rfl, fun k _ => by rw [if_neg (by simp)]; rfl⟩
  | v :: l, Z => by
    let W : az := zs_a (if az_a Z 9 < 600 then zs_x Z 1 (az_a Z 9) v else Z) 9 (az_a Z 9 + 1)
    have hW : zPrint (v :: l) Z = zPrint l W := rfl
    have w1 : ∀ i, az_a W i = if i = 9 then az_a Z 9 + 1 else az_a Z i := fun i => by
      show az_a (zs_a _ 9 _) i = _
      rw [z_a_a]
      by_cases e : i = 9
      · rw [if_pos e, if_pos e]
      · rw [if_neg e, if_neg e]
        split <;> rfl
    have w2 : az_b W = az_b Z ∧ az_c W = az_c Z ∧ az_e W = az_e Z ∧ az_f W = az_f Z ∧ az_t W = az_t Z ∧ az_w W = az_w Z := by
      show az_b (if az_a Z 9 < 600 then zs_x Z 1 (az_a Z 9) v else Z) = _ ∧ az_c (if az_a Z 9 < 600 then zs_x Z 1 (az_a Z 9) v else Z) = _ ∧ az_e (if az_a Z 9 < 600 then zs_x Z 1 (az_a Z 9) v else Z) = _ ∧ az_f (if az_a Z 9 < 600 then zs_x Z 1 (az_a Z 9) v else Z) = _ ∧ az_t (if az_a Z 9 < 600 then zs_x Z 1 (az_a Z 9) v else Z) = _ ∧ az_w (if az_a Z 9 < 600 then zs_x Z 1 (az_a Z 9) v else Z) = _
      split <;> exact ⟨rfl, rfl, rfl, rfl, rfl, rfl⟩
    have w3 : ∀ i k, az_x W i k = if az_a Z 9 < 600 ∧ i = 1 ∧ k = az_a Z 9 then v else az_x Z i k := fun i k => by
      show az_x (if az_a Z 9 < 600 then zs_x Z 1 (az_a Z 9) v else Z) i k = _
      by_cases e : az_a Z 9 < 600
      · rw [if_pos e, z_x_x]
        by_cases e2 : i = 1 ∧ k = az_a Z 9
        · rw [if_pos e2, if_pos ⟨e, e2⟩]
        · rw [if_neg e2, if_neg (fun z => e2 z.2)]
      · rw [if_neg e, if_neg (fun z => e z.1)]
    obtain ⟨i1, i2, i3, i4, i5, i6, i7, i8, i9⟩ := zPrint_get l W
    obtain ⟨b1, b2, b3, b4, b5, b6⟩ := w2
    rw [hW]
    refine ⟨fun i => ?_, i2.trans b1, i3.trans b2, i4.trans b3, i5.trans b4, i6.trans b5, i7.trans b6, fun i k h => ?_, fun k hk => ?_⟩
    · rw [i1, w1, w1, if_pos rfl]
      by_cases e : i = 9
      · rw [if_pos e, if_pos e, List.length_cons]; omega
      · rw [if_neg e, if_neg e, if_neg e]
    · rw [i8 i k h, w3, if_neg (fun z => h z.2.1)]
    · rw [i9 k hk, w1, if_pos rfl, w3, List.length_cons]
      by_cases e : k = az_a Z 9
      · rw [if_neg (by omega), if_pos ⟨by omega, rfl, e⟩, if_pos (by omega), e, Nat.sub_self]
        rfl
      · by_cases e2 : az_a Z 9 ≤ k ∧ k < az_a Z 9 + (l.length + 1)
        · rw [if_pos (by omega), if_pos e2, show k - az_a Z 9 = (k - (az_a Z 9 + 1)) + 1 by omega]
          rfl
        · rw [if_neg (by omega), if_neg e2, if_neg (fun z => e z.2.2)]
section CRP
variable {Z : az} {S S' E : pm_S} {Y : pm_Y}
theorem pm_CR.cg {W : az} (h : pm_CR Z S Y E) (e : W = Z) : pm_CR W S Y E := e ▸ h
/-- what is printed -/
theorem pm_CR.pr {w : List Int32} (h : pm_CR Z S Y E) (hn : az_a Z 0 ≤ 60) (hf : pm_fr S S' (fun g b => g = 101 ∧ b = Y.1 9) (fun b => b = Y.1 10)) (h1 : pm_i S' 101 (Y.1 9) = nI (az_a Z 9 + w.length)) (h2 : ∀ i, i < 600 → pm_x S' (Y.1 10) i = if az_a Z 9 ≤ i ∧ i < az_a Z 9 + w.length then w.getD (i - az_a Z 9) 0 else pm_x S (Y.1 10) i) : pm_CR (zPrint w Z) S' Y E := by
  obtain ⟨z1, z2, z3, z4, z5, z6, z7, z8, z9⟩ := zPrint_get w Z
  obtain ⟨u1, u2, u3, u4, u5, u6, u7, u8, u9, u10, u11⟩ := h.upd hn hf (fun g b z => Or.inr (Or.inl z)) (fun b z => Or.inr (Or.inr (Or.inr (Or.inl z))))
  obtain ⟨g1, g2, g3, g4, g5, g6, g7, g8, g9, g10, g11, g12, g13, g14, g15⟩ := id h
  have z0 : az_a (zPrint w Z) 0 = az_a Z 0 := by rw [z1, if_neg (by decide)]
  have n10 : ∀ d, d < 15 → d ≠ 10 → ¬ Y.1 d = Y.1 10 := fun d hd hne z => hne (h.cc hd (by decide) z)
  unfold pm_CR vB vN vJ vK vW vP vT vM
  rw [z0, z2, z3, z4, z5, z6, z7, show az_a (zPrint w Z) 1 = az_a Z 1 from by rw [z1, if_neg (by decide)]]
  refine ⟨g1, u1, u2, u3, fun p hp f c i ht => ?_, fun f c i ht => ?_, u4, u5, ⟨fun i hi => ?_, fun i hi hi2 => ?_⟩, u7, ⟨?_, ?_⟩, u8, u9, fun p hp => ?_, u10⟩
  · rw [(hf.2.2.1 _ _ (fun z => by have z := z.1; subst z; cases ht)).1]; exact g5 p hp f c i ht
  · rw [z1]
    by_cases e : f = 101
    · subst e
      cases ht
      rw [if_pos rfl]
      exact h1
    · rw [if_neg (fun z => e (by subst z; exact tbA_inj ht (show tbA 101 = some (9, 9) from rfl))), (hf.2.2.1 _ _ (fun z => e z.1)).1]
      exact g6 f c i ht
  · rw [z8 _ _ (by decide)]; exact u6 i hi
  · rw [h2 i hi, z9 i hi]
    rw [z1, if_pos rfl] at hi2
    by_cases e : az_a Z 9 ≤ i ∧ i < az_a Z 9 + w.length
    · rw [if_pos e, if_pos e]
    · rw [if_neg e, if_neg e]
      exact g9.2 i hi (by omega)
  · rw [(hf.2.2.1 _ _ (fun z => by omega)).1]; exact g11.1
  · intro i hi
    rw [(hf.2.2.2 _ (n10 6 (by decide) (by decide))).1, (hf.2.2.2 _ (n10 7 (by decide) (by decide))).1, (hf.2.2.2 _ (n10 8 (by decide) (by decide))).1]
    exact g11.2 i hi
  · obtain ⟨m1, m2, m3, m4, m5, m6⟩ := g14 p hp
    exact ⟨m1, m2, fun k hk => by rw [(hf.2.2.2 _ (fun z => h.pc hp (by decide) (by decide) z)).2.2]; exact m3 k hk, fun k hk => ⟨(m4 k hk).1, (m4 k hk).2.elim (fun w q => ⟨w, u11 p _ w hp (m4 k hk).1 q⟩)⟩, m5, fun k hk => u11 p _ _ hp (m4 k (by omega)).1 (m6 k hk)⟩
/-- which row is at a place, behind the drop of the message at t, of n -/
def piD (pi : Nat → Nat → Nat) (p t n : Nat) : Nat → Nat → Nat := fun q k => if q = p then (if t ≤ k ∧ k + 1 < n then pi p (k + 1) else if k + 1 = n then pi p t else pi p k) else pi q k
/-- a message is dropped -/
theorem pm_CR.dm {p t n : Nat} (h : pm_CR Z S Y E) (hn : az_a Z 0 ≤ 60) (hp : p < az_a Z 0) (en : az_b Z 9 p = n) (ht : t < n) (hf : pm_fr S S' (fun g b => (g = 1 ∨ g = 2) ∧ b = Y.1 (pq p 4)) (fun b => b = Y.1 (pq p 5))) (h1 : pm_i S' 1 (Y.1 (pq p 4)) = nI (n - 1)) (h2 : pm_i S' 2 (Y.1 (pq p 4)) = 0) (h3 : ∀ i, i < 40 → pm_z S' (Y.1 (pq p 5)) i = if t ≤ i ∧ i + 1 < n then pm_z S (Y.1 (pq p 5)) (i + 1) else if i + 1 = n then pm_z S (Y.1 (pq p 5)) t else pm_z S (Y.1 (pq p 5)) i) : pm_CR (zs_b (zs_b (zs_m Z p (fun k => if k < t then az_t Z 2 p k else az_t Z 2 p (k + 1))) 9 p (n - 1)) 10 p 0) S' (Y.1, Y.2.1, piD Y.2.2 p t n) E := by
  obtain ⟨u1, u2, u3, u4, u5, u6, u7, u8, u9, u10, u11⟩ := h.upd hn hf (fun g b z => Or.inr (Or.inr ⟨p, hp, z⟩)) (fun b z => Or.inr (Or.inr (Or.inr (Or.inr ⟨p, hp, z⟩))))
  obtain ⟨g1, g2, g3, g4, g5, g6, g7, g8, g9, g10, g11, g12, g13, g14, g15⟩ := id h
  refine ⟨g1, u1, u2, u3, fun q hq f c i ht => ?_, fun f c i ht => ?_, u4, u5, ⟨u6, fun i hi hi2 => ?_⟩, fun q hq => ?_, ⟨?_, fun i hi => ?_⟩, u8, fun q hq => ?_, fun q hq => ?_, u10⟩
  · show pm_i S' f (Y.1 (pq q c)) = nI (az_b _ i q)
    rw [z_b_b, z_b_b, z_b_m]
    by_cases e : (f = 1 ∨ f = 2) ∧ Y.1 (pq q c) = Y.1 (pq p 4)
    · have e3 := (h.pp hq hp (by have := (tbB_c ht).1; omega) (by decide) e.2).1
      subst e3
      rcases e.1 with e1 | e1
      · subst e1
        cases ht
        rw [if_neg (by omega), if_pos ⟨rfl, rfl⟩]
        exact h1
      · subst e1
        cases ht
        rw [if_pos ⟨rfl, rfl⟩]
        exact h2
    · rw [(hf.2.2.1 _ _ e).1, if_neg (fun z => e ?_), if_neg (fun z => e ?_)]
      · exact g5 q hq f c i ht
      · obtain ⟨z1, z2⟩ := z
        subst z1
        have := tbB_inj ht (show tbB 1 = some (4, 9) from rfl)
        subst this
        cases ht
        exact ⟨Or.inl rfl, by rw [z2]⟩
      · obtain ⟨z1, z2⟩ := z
        subst z1
        have := tbB_inj ht (show tbB 2 = some (4, 10) from rfl)
        subst this
        cases ht
        exact ⟨Or.inr rfl, by rw [z2]⟩
  · show pm_i S' f (Y.1 c) = nI (az_a Z i)
    rw [(hf.2.2.1 _ _ (fun z => h.pc hp (by decide) (by have := (tbA_c ht).1; omega) z.2.symm)).1]
    exact g6 f c i ht
  · show pm_x S' (Y.1 10) i = az_x Z 1 i
    rw [(hf.2.2.2 _ (fun z => h.pc hp (by decide) (by decide) z.symm)).1]
    exact g9.2 i hi hi2
  · rw [z_b_bne (by decide), z_b_bne (by decide), z_b_bne (by decide), z_b_bne (by decide)]
    exact u7 q hq
  · show pm_i S' 253 (Y.1 5) = nI (az_w Z).length
    rw [(hf.2.2.1 _ _ (fun z => by omega)).1]
    exact g11.1
  · show ((az_w Z).map _)[i]? = some (pm_x S' (Y.1 6) i, pm_x S' (Y.1 7) i, pm_x S' (Y.1 8) i)
    rw [(hf.2.2.2 _ (fun z => h.pc hp (by decide) (by decide) z.symm)).1, (hf.2.2.2 _ (fun z => h.pc hp (by decide) (by decide) z.symm)).1, (hf.2.2.2 _ (fun z => h.pc hp (by decide) (by decide) z.symm)).1]
    exact g11.2 i hi
  · show (∀ j, j < 8 → pm_tm S' _ _ (az_t (zs_b (zs_b (zs_m Z p _) 9 p (n - 1)) 10 p 0) 0 q j)) ∧ pm_tm S' _ _ (az_t (zs_b (zs_b (zs_m Z p _) 9 p (n - 1)) 10 p 0) 1 q 0)
    refine ⟨fun j hj => ?_, ?_⟩
    · rw [z_t_b, z_t_b, z_t_m, if_neg (fun z => by omega)]
      exact (u9 q hq).1 j hj
    · rw [z_t_b, z_t_b, z_t_m, if_neg (fun z => by omega)]
      exact (u9 q hq).2
  · obtain ⟨m1, m2, m3, m4, m5, m6⟩ := g14 q hq
    show az_b _ 9 q ≤ Y.2.1 q ∧ _ ∧ (∀ k, k < 40 → pm_z S' (Y.1 (pq q 5)) k = if k < Y.2.1 q then some (Y.1 (pq q (30 + piD Y.2.2 p t n q k))) else none) ∧ _
    by_cases e : q = p
    · subst e
      have e9 : az_b (zs_b (zs_b (zs_m Z q (fun k => if k < t then az_t Z 2 q k else az_t Z 2 q (k + 1))) 9 q (n - 1)) 10 q 0) 9 q = n - 1 := by rw [z_b_bne (by decide), z_b_b, if_pos ⟨rfl, rfl⟩]
      have pk : ∀ k, k < Y.2.1 q → ∃ k2, k2 < Y.2.1 q ∧ piD Y.2.2 q t n q k = Y.2.2 q k2 ∧ k2 = (if t ≤ k ∧ k + 1 < n then k + 1 else if k + 1 = n then t else k) := fun k hk => by
        refine ⟨if t ≤ k ∧ k + 1 < n then k + 1 else if k + 1 = n then t else k, ?_, ?_, rfl⟩
        · split
          · omega
          · split <;> omega
        · unfold piD
          rw [if_pos rfl]
          split
          · rfl
          · split <;> rfl
      rw [e9]
      refine ⟨by omega, m2, fun k hk => ?_, fun k hk => ?_, fun k l hk hl hkl => ?_, fun k hk => ?_⟩
      · rw [h3 k hk]
        unfold piD
        rw [if_pos rfl]
        by_cases e1 : t ≤ k ∧ k + 1 < n
        · rw [if_pos e1, if_pos e1, m3 (k + 1) (by omega), if_pos (by omega), if_pos (by omega)]
        · rw [if_neg e1, if_neg e1]
          by_cases e2 : k + 1 = n
          · rw [if_pos e2, if_pos e2, m3 t (by omega), if_pos (by omega), if_pos (by omega)]
          · rw [if_neg e2, if_neg e2, m3 k hk]
      · obtain ⟨k2, a1, a2, -⟩ := pk k hk
        show piD Y.2.2 q t n q k < _ ∧ ∃ w, pm_tm S' (Y.1 (pq q (30 + piD Y.2.2 q t n q k))) (Y.1 (pq q (80 + piD Y.2.2 q t n q k))) w
        rw [a2]
        exact ⟨(m4 k2 a1).1, (m4 k2 a1).2.elim (fun w z => ⟨w, u11 q _ w hq (m4 k2 a1).1 z⟩)⟩
      · have hk : k < Y.2.1 q := hk
        have hl : l < Y.2.1 q := hl
        have hkl : piD Y.2.2 q t n q k = piD Y.2.2 q t n q l := hkl
        obtain ⟨k2, a1, a2, a3⟩ := pk k hk
        obtain ⟨l2, b1, b2, b3⟩ := pk l hl
        rw [a2, b2] at hkl
        have := m5 k2 l2 a1 b1 hkl
        rw [a3, b3] at this
        split at this <;> split at this <;> (try split at this) <;> (try split at this) <;> omega
      · have hk : k < n - 1 := hk
        show pm_tm S' (Y.1 (pq q (30 + piD Y.2.2 q t n q k))) (Y.1 (pq q (80 + piD Y.2.2 q t n q k))) (az_t (zs_b (zs_b (zs_m Z q _) 9 q (n - 1)) 10 q 0) 2 q k)
        rw [z_t_b, z_t_b, z_t_m, if_pos ⟨rfl, rfl⟩]
        unfold piD
        rw [if_pos rfl]
        by_cases e1 : k < t
        · rw [if_pos e1, if_neg (by omega), if_neg (by omega)]
          exact u11 q _ _ hq (m4 k (by omega)).1 (m6 k (by omega))
        · rw [if_neg e1, if_pos (by omega)]
          exact u11 q _ _ hq (m4 (k + 1) (by omega)).1 (m6 (k + 1) (by omega))
    · have e9 : az_b (zs_b (zs_b (zs_m Z p (fun k => if k < t then az_t Z 2 p k else az_t Z 2 p (k + 1))) 9 p (n - 1)) 10 p 0) 9 q = az_b Z 9 q := by rw [z_b_bne (by decide), z_b_b, if_neg (fun z => e z.2), z_b_m]
      have ep : piD Y.2.2 p t n q = Y.2.2 q := by funext k; unfold piD; rw [if_neg e]
      rw [e9, ep]
      refine ⟨m1, m2, fun k hk => ?_, fun k hk => ?_, fun k l hk hl hkl => ?_, fun k hk => ?_⟩
      · rw [(hf.2.2.2 _ (fun z => e (h.pp hq hp (by decide) (by decide) z).1)).2.2]
        exact m3 k hk
      · show piD Y.2.2 p t n q k < _ ∧ ∃ w, pm_tm S' (Y.1 (pq q (30 + piD Y.2.2 p t n q k))) (Y.1 (pq q (80 + piD Y.2.2 p t n q k))) w
        rw [ep]
        exact ⟨(m4 k hk).1, (m4 k hk).2.elim (fun w z => ⟨w, u11 q _ w hq (m4 k hk).1 z⟩)⟩
      · have hkl : piD Y.2.2 p t n q k = piD Y.2.2 p t n q l := hkl
        rw [ep] at hkl
        exact m5 k l hk hl hkl
      · show pm_tm S' (Y.1 (pq q (30 + piD Y.2.2 p t n q k))) (Y.1 (pq q (80 + piD Y.2.2 p t n q k))) (az_t (zs_b (zs_b (zs_m Z p _) 9 p (n - 1)) 10 p 0) 2 q k)
        rw [z_t_b, z_t_b, z_t_m, if_neg (fun z => e z.2), ep]
        exact u11 q _ _ hq (m4 k (by omega)).1 (m6 k hk)
end CRP
