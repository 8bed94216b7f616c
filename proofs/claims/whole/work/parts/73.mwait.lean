/-! the reference: waiting, dropping, printing, new processes -/
section MRW
variable {b : Nat} {Z : az} {M : pm_N}
theorem zW_b {p a c i q : Nat} {r : Option Nat} : az_b (zs_e (zs_b (zs_b (zs_b Z 1 p 1) 3 p a) 4 p c) 1 p r) i q = if i = 4 ∧ q = p then c else if i = 3 ∧ q = p then a else if i = 1 ∧ q = p then 1 else az_b Z i q := by rw [z_b_e, z_b_b, z_b_b, z_b_b]
theorem zW_bo {p a c i q : Nat} {r : Option Nat} (h1 : i ≠ 1) (h3 : i ≠ 3) (h4 : i ≠ 4) : az_b (zs_e (zs_b (zs_b (zs_b Z 1 p 1) 3 p a) 4 p c) 1 p r) i q = az_b Z i q := by rw [zW_b, if_neg (fun z => h4 z.1), if_neg (fun z => h3 z.1), if_neg (fun z => h1 z.1)]
theorem zW_bq {p a c i q : Nat} {r : Option Nat} (h : q ≠ p) : az_b (zs_e (zs_b (zs_b (zs_b Z 1 p 1) 3 p a) 4 p c) 1 p r) i q = az_b Z i q := by rw [zW_b, if_neg (fun z => h z.2), if_neg (fun z => h z.2), if_neg (fun z => h z.2)]
theorem mR.wt0 (h : mR b Z M) {p a c : Nat} (hp : p < az_a Z 0) (h1 : az_b Z 1 p ≠ 1) : mR b (zs_e (zs_b (zs_b (zs_b Z 1 p 1) 3 p a) 4 p c) 1 p none) (mx (mx M 6 p 1) 19 p (nI a)) := by
  obtain ⟨g1, g2, g3, g4, g5, g6, g7, g8, g9, g10, g11, g12⟩ := h
  refine ⟨?_, ?_, ?_, ?_, ?_, ?_, ?_, ?_, ?_, ?_, ?_, ?_⟩
  · intro q hq s2 i2 hs2
    have hss := tmB_s hs2
    rw [mx_o (by omega), mx_1]
    by_cases e : s2 = 6 ∧ q = p
    · rw [if_pos e]
      rw [e.1] at hs2
      cases hs2
      rw [zW_b, if_neg (fun z => by omega), if_neg (fun z => by omega), if_pos ⟨rfl, e.2⟩]; rfl
    · rw [if_neg e]
      have e2 : az_b (zs_e (zs_b (zs_b (zs_b Z 1 p 1) 3 p a) 4 p c) 1 p none) i2 q = az_b Z i2 q := by
        rw [zW_b, if_neg (fun z => by rw [z.1] at hs2; unfold tmB at hs2; split at hs2 <;> cases hs2), if_neg (fun z => by rw [z.1] at hs2; unfold tmB at hs2; split at hs2 <;> cases hs2), if_neg (fun z => e ⟨tmB_inj (by rw [← z.1]; exact hs2) rfl, z.2⟩)]
      rw [e2]
      exact g1 q hq s2 i2 hs2
  · exact fun f i hf => by rw [mx_2, mx_2]; exact g2 f i hf
  · exact fun q hq => by rw [mx_o (by decide), mx_o (by decide), zW_bo (by decide) (by decide) (by decide)]; exact g3 q hq
  · exact fun q hq => by rw [mx_o (by decide), mx_o (by decide), z_e_e, if_neg (fun z => by omega)]; exact g4 q hq
  · intro q hq
    by_cases e : q = p
    · subst e
      refine ⟨fun z => absurd (by rw [zW_b, if_neg (fun z => by omega), if_neg (fun z => by omega), if_pos ⟨rfl, rfl⟩]) z, fun _ => ⟨?_, Or.inl ⟨by rw [z_e_e, if_pos ⟨rfl, rfl⟩], ?_⟩⟩⟩
      · rw [mx_s, zW_b, if_neg (fun z => by omega), if_pos ⟨rfl, rfl⟩]
      · rw [mx_o (by decide), mx_o (by decide)]; exact (g5 q hq).1 h1
    · exact rQ_cg (g5 q hq) (by rw [mx_o (by decide), mx_o (by decide)]) (by rw [mx_k e, mx_o (by decide)]) (by rw [mx_o (by decide), mx_o (by decide)]) (by rw [mx_o (by decide), mx_o (by decide)]) (zW_bq e) (zW_bq e) (zW_bq e) (by rw [z_e_e, if_neg (fun z => e z.2)]; rfl)
  · exact fun q hq => rK_cg (g6 q hq) (fun i => by rw [mx_o (by decide), mx_o (by decide)]) (fun i => by rw [mx_o (by decide), mx_o (by decide)]) (fun i => by rw [mx_o (by decide), mx_o (by decide)]) (zW_bo (by decide) (by decide) (by decide)) (zW_bo (by decide) (by decide) (by decide)) rfl
  · exact fun q r hq hr => by rw [mx_o (by decide), mx_o (by decide)]; exact g7 q r hq hr
  · exact ⟨by rw [mx_2, mx_2]; exact g8.1, fun i t hi => by rw [mx_o (by decide), mx_o (by decide)]; rw [mx_o (by decide), mx_o (by decide)]; rw [mx_o (by decide), mx_o (by decide)]; exact g8.2 i t hi⟩
  · exact ⟨fun k hk => by rw [mx_o (by decide), mx_o (by decide)]; rw [mx_o (by decide), mx_o (by decide)]; rw [mx_o (by decide), mx_o (by decide)]; rw [mx_o (by decide), mx_o (by decide)]; exact g9.1 k hk, fun i hi hi2 => by rw [mx_o (by decide), mx_o (by decide)]; exact g9.2 i hi hi2⟩
  · exact ⟨by rw [mx_2, mx_2]; exact g10.1, g10.2.1, fun i hi => by rw [mx_o (by decide), mx_o (by decide)]; exact g10.2.2 i hi⟩
  · intro q hq
    obtain ⟨a1, a2, a3⟩ := g11 q hq
    refine ⟨fun j hj => (a1 j hj).cg (fun k => by rw [mx_o (by decide), mx_o (by decide)]) (fun k => by rw [mx_o (by decide), mx_o (by decide)]), fun k hk => ?_, fun hd => ?_⟩
    · rw [zW_bo (by decide) (by decide) (by decide)] at hk
      exact (a2 k hk).cg (fun k => by rw [mx_o (by decide), mx_o (by decide)]) (fun k => by rw [mx_o (by decide), mx_o (by decide)])
    · by_cases e : q = p
      · rw [zW_b, if_neg (fun z => by omega), if_neg (fun z => by omega), if_pos ⟨rfl, e⟩] at hd; cases hd
      · rw [zW_bq e] at hd; exact (a3 hd).cg (fun k => by rw [mx_o (by decide), mx_o (by decide)]) (fun k => by rw [mx_o (by decide), mx_o (by decide)])
  · exact fun q hq hq2 s hs => by rw [mx_o (by omega), mx_o (by omega)]; exact g12 q hq hq2 s hs
theorem mR.wtT (h : mR b Z M) {p a c u : Nat} (hp : p < az_a Z 0) : mR b (zs_e (zs_b (zs_b (zs_b Z 1 p 1) 3 p a) 4 p c) 1 p (some u)) (mx (mx (mx (mx (mx M 6 p 1) 19 p (nI a)) 20 p (nI c)) 21 p (nI (min u 2000000000))) 22 p 1) := by
  obtain ⟨g1, g2, g3, g4, g5, g6, g7, g8, g9, g10, g11, g12⟩ := h
  refine ⟨?_, ?_, ?_, ?_, ?_, ?_, ?_, ?_, ?_, ?_, ?_, ?_⟩
  · intro q hq s2 i2 hs2
    have hss := tmB_s hs2
    rw [mx_o (by omega), mx_o (by omega), mx_o (by omega), mx_o (by omega), mx_1]
    by_cases e : s2 = 6 ∧ q = p
    · rw [if_pos e]
      rw [e.1] at hs2
      cases hs2
      rw [zW_b, if_neg (fun z => by omega), if_neg (fun z => by omega), if_pos ⟨rfl, e.2⟩]; rfl
    · rw [if_neg e]
      have e2 : az_b (zs_e (zs_b (zs_b (zs_b Z 1 p 1) 3 p a) 4 p c) 1 p (some u)) i2 q = az_b Z i2 q := by
        rw [zW_b, if_neg (fun z => by rw [z.1] at hs2; unfold tmB at hs2; split at hs2 <;> cases hs2), if_neg (fun z => by rw [z.1] at hs2; unfold tmB at hs2; split at hs2 <;> cases hs2), if_neg (fun z => e ⟨tmB_inj (by rw [← z.1]; exact hs2) rfl, z.2⟩)]
      rw [e2]
      exact g1 q hq s2 i2 hs2
  · exact fun f i hf => by rw [mx_2, mx_2, mx_2, mx_2, mx_2]; exact g2 f i hf
  · exact fun q hq => by rw [mx_o (by decide), mx_o (by decide), mx_o (by decide), mx_o (by decide), mx_o (by decide), zW_bo (by decide) (by decide) (by decide)]; exact g3 q hq
  · exact fun q hq => by rw [mx_o (by decide), mx_o (by decide), mx_o (by decide), mx_o (by decide), mx_o (by decide), z_e_e, if_neg (fun z => by omega)]; exact g4 q hq
  · intro q hq
    by_cases e : q = p
    · subst e
      refine ⟨fun z => absurd (by rw [zW_b, if_neg (fun z => by omega), if_neg (fun z => by omega), if_pos ⟨rfl, rfl⟩]) z, fun _ => ⟨?_, Or.inr ⟨u, by rw [z_e_e, if_pos ⟨rfl, rfl⟩], mx_s, ?_, ?_⟩⟩⟩
      · rw [mx_o (by decide), mx_o (by decide), mx_o (by decide), mx_s, zW_b, if_neg (fun z => by omega), if_pos ⟨rfl, rfl⟩]
      · rw [mx_o (by decide), mx_s]
      · rw [mx_o (by decide), mx_o (by decide), mx_s, zW_b, if_pos ⟨rfl, rfl⟩]
    · exact rQ_cg (g5 q hq) (by rw [mx_k e, mx_o (by decide), mx_o (by decide), mx_o (by decide), mx_o (by decide)]) (by rw [mx_o (by decide), mx_o (by decide), mx_o (by decide), mx_k e, mx_o (by decide)]) (by rw [mx_o (by decide), mx_k e, mx_o (by decide), mx_o (by decide), mx_o (by decide)]) (by rw [mx_o (by decide), mx_o (by decide), mx_k e, mx_o (by decide), mx_o (by decide)]) (zW_bq e) (zW_bq e) (zW_bq e) (by rw [z_e_e, if_neg (fun z => e z.2)]; rfl)
  · exact fun q hq => rK_cg (g6 q hq) (fun i => by rw [mx_o (by decide), mx_o (by decide), mx_o (by decide), mx_o (by decide), mx_o (by decide)]) (fun i => by rw [mx_o (by decide), mx_o (by decide), mx_o (by decide), mx_o (by decide), mx_o (by decide)]) (fun i => by rw [mx_o (by decide), mx_o (by decide), mx_o (by decide), mx_o (by decide), mx_o (by decide)]) (zW_bo (by decide) (by decide) (by decide)) (zW_bo (by decide) (by decide) (by decide)) rfl
  · exact fun q r hq hr => by rw [mx_o (by decide), mx_o (by decide), mx_o (by decide), mx_o (by decide), mx_o (by decide)]; exact g7 q r hq hr
  · exact ⟨by rw [mx_2, mx_2, mx_2, mx_2, mx_2]; exact g8.1, fun i t hi => by rw [mx_o (by decide), mx_o (by decide), mx_o (by decide), mx_o (by decide), mx_o (by decide)]; rw [mx_o (by decide), mx_o (by decide), mx_o (by decide), mx_o (by decide), mx_o (by decide)]; rw [mx_o (by decide), mx_o (by decide), mx_o (by decide), mx_o (by decide), mx_o (by decide)]; exact g8.2 i t hi⟩
  · exact ⟨fun k hk => by rw [mx_o (by decide), mx_o (by decide), mx_o (by decide), mx_o (by decide), mx_o (by decide)]; rw [mx_o (by decide), mx_o (by decide), mx_o (by decide), mx_o (by decide), mx_o (by decide)]; rw [mx_o (by decide), mx_o (by decide), mx_o (by decide), mx_o (by decide), mx_o (by decide)]; rw [mx_o (by decide), mx_o (by decide), mx_o (by decide), mx_o (by decide), mx_o (by decide)]; exact g9.1 k hk, fun i hi hi2 => by rw [mx_o (by decide), mx_o (by decide), mx_o (by decide), mx_o (by decide), mx_o (by decide)]; exact g9.2 i hi hi2⟩
  · exact ⟨by rw [mx_2, mx_2, mx_2, mx_2, mx_2]; exact g10.1, g10.2.1, fun i hi => by rw [mx_o (by decide), mx_o (by decide), mx_o (by decide), mx_o (by decide), mx_o (by decide)]; exact g10.2.2 i hi⟩
  · intro q hq
    obtain ⟨a1, a2, a3⟩ := g11 q hq
    refine ⟨fun j hj => (a1 j hj).cg (fun k => by rw [mx_o (by decide), mx_o (by decide), mx_o (by decide), mx_o (by decide), mx_o (by decide)]) (fun k => by rw [mx_o (by decide), mx_o (by decide), mx_o (by decide), mx_o (by decide), mx_o (by decide)]), fun k hk => ?_, fun hd => ?_⟩
    · rw [zW_bo (by decide) (by decide) (by decide)] at hk
      exact (a2 k hk).cg (fun k => by rw [mx_o (by decide), mx_o (by decide), mx_o (by decide), mx_o (by decide), mx_o (by decide)]) (fun k => by rw [mx_o (by decide), mx_o (by decide), mx_o (by decide), mx_o (by decide), mx_o (by decide)])
    · by_cases e : q = p
      · rw [zW_b, if_neg (fun z => by omega), if_neg (fun z => by omega), if_pos ⟨rfl, e⟩] at hd; cases hd
      · rw [zW_bq e] at hd; exact (a3 hd).cg (fun k => by rw [mx_o (by decide), mx_o (by decide), mx_o (by decide), mx_o (by decide), mx_o (by decide)]) (fun k => by rw [mx_o (by decide), mx_o (by decide), mx_o (by decide), mx_o (by decide), mx_o (by decide)])
  · exact fun q hq hq2 s hs => by rw [mx_k (fun z => by rw [z] at hq; exact absurd hp (Nat.not_lt.mpr hq)), mx_o (by omega), mx_o (by omega), mx_o (by omega), mx_o (by omega)]; exact g12 q hq hq2 s hs
theorem mR.prt (h : mR b Z M) {M2 : pm_N} {w : List Int32} (e1 : ∀ s k, s ≠ 34 → M2.1 s k = M.1 s k) (e2 : ∀ f, f ≠ 35 → M2.2 f = M.2 f) (e3 : M2.2 35 = nI (az_a Z 9 + w.length)) (e4 : ∀ i, i < 600 → i < az_a Z 9 + w.length → M2.1 34 i = if az_a Z 9 ≤ i then w.getD (i - az_a Z 9) 0 else M.1 34 i) : mR b (zPrint w Z) M2 := by
  obtain ⟨g1, g2, g3, g4, g5, g6, g7, g8, g9, g10, g11, g12⟩ := h
  obtain ⟨p1, p2, p3, p4, p5, p6, p7, p8, p9⟩ := zPrint_get w Z
  have a0 : az_a (zPrint w Z) 0 = az_a Z 0 := by rw [p1, if_neg (by decide)]
  have a1 : az_a (zPrint w Z) 1 = az_a Z 1 := by rw [p1, if_neg (by decide)]
  refine ⟨?_, ?_, ?_, ?_, ?_, ?_, ?_, ?_, ?_, ?_, ?_, ?_⟩
  · exact fun q hq s i hs => by have := tmB_s hs; rw [a0] at hq; rw [e1 s q (by omega), p2]; exact g1 q hq s i hs
  · intro f i hf
    by_cases e : f = 35
    · rw [e] at hf; cases hf
      rw [e, e3, p1, if_pos rfl]
    · rw [e2 f e, p1, if_neg (fun z => e (tmA_inj (i := 9) (by rw [← z]; exact hf) rfl))]; exact g2 f i hf
  · exact fun q hq => by rw [a0] at hq; rw [e1 23 q (by decide), p2]; exact g3 q hq
  · exact fun q hq => by rw [a0] at hq; rw [e1 9 q (by decide), p4]; exact g4 q hq
  · exact fun q hq => by rw [a0] at hq; rw [e1 22 q (by decide), e1 19 q (by decide), e1 21 q (by decide), e1 20 q (by decide), p2, p4]; exact g5 q hq
  · exact fun q hq => by rw [a0] at hq; exact rK_cg (g6 q hq) (fun i => e1 13 i (by decide)) (fun i => e1 15 i (by decide)) (fun i => e1 16 i (by decide)) (by rw [p2]) (by rw [p2]) p3
  · exact fun q r hq hr => by rw [e1 24 _ (by decide), p5]; exact g7 q r hq hr
  · exact ⟨by rw [e2 30 (by decide), p7]; exact g8.1, fun i t hi => by rw [p7] at hi; rw [e1 27 i (by decide), e1 28 i (by decide), e1 29 i (by decide)]; exact g8.2 i t hi⟩
  · refine ⟨fun k hk => by rw [e1 2 k (by decide), e1 3 k (by decide), e1 4 k (by decide), e1 5 k (by decide), p8 0 _ (by decide), p8 0 _ (by decide), p8 0 _ (by decide), p8 0 _ (by decide)]; exact g9.1 k hk, fun i hi hi2 => ?_⟩
    rw [p1, if_pos rfl] at hi2
    rw [e4 i hi hi2, p9 i hi]
    by_cases e : az_a Z 9 ≤ i
    · rw [if_pos e, if_pos ⟨e, hi2⟩]
    · rw [if_neg e, if_neg (fun z => e z.1)]; exact g9.2 i hi (by omega)
  · exact ⟨by rw [e2 33 (by decide), a1]; exact g10.1, by rw [a1]; exact g10.2.1, fun i hi => by rw [a1] at hi; rw [e1 32 i (by decide), p3]; exact g10.2.2 i hi⟩
  · exact fun q hq => by rw [a0] at hq; exact ⟨fun j hj => by rw [p6]; exact ((g11 q hq).1 j hj).cg (fun k => e1 0 k (by decide)) (fun k => e1 1 k (by decide)), fun k hk => by rw [p2] at hk; rw [p6]; exact ((g11 q hq).2.1 k hk).cg (fun k => e1 0 k (by decide)) (fun k => e1 1 k (by decide)), fun hd => by rw [p2] at hd; rw [p6]; exact ((g11 q hq).2.2 hd).cg (fun k => e1 0 k (by decide)) (fun k => e1 1 k (by decide))⟩
  · exact fun q hq hq2 s hs => by rw [a0] at hq; rw [e1 s q (by omega)]; exact g12 q hq hq2 s hs
theorem zNew_b {a pr i q : Nat} : az_b (zNew Z a pr) i q = if i = 5 ∧ q = az_a Z 0 then az_a Z 3 else if q = az_a Z 0 then (if i = 0 then pr else if i = 2 then a else 0) else az_b Z i q := by
  unfold zNew zTurn
  rw [z_b_a, z_b_b, z_b_n, show az_a (zs_n Z a pr) 3 = az_a Z 3 from rfl]
theorem zNew_bo {a pr i q : Nat} (h : q ≠ az_a Z 0) : az_b (zNew Z a pr) i q = az_b Z i q := by rw [zNew_b, if_neg (fun z => h z.2), if_neg h]
theorem zNew_bn {a pr i : Nat} (h0 : i ≠ 0) (h2 : i ≠ 2) (h5 : i ≠ 5) : az_b (zNew Z a pr) i (az_a Z 0) = 0 := by rw [zNew_b, if_neg (fun z => h5 z.1), if_pos rfl, if_neg h0, if_neg h2]
theorem zNew_a {a pr i : Nat} : az_a (zNew Z a pr) i = if i = 3 then az_a Z 3 + 1 else if i = 0 then az_a Z 0 + 1 else az_a Z i := by
  unfold zNew zTurn
  rw [z_a_a, z_a_b, show az_a (zs_n Z a pr) 3 = az_a Z 3 from rfl, z_a_n]
theorem zNew_e {a pr i q : Nat} : az_e (zNew Z a pr) i q = if (i = 0 ∨ i = 1) ∧ q = az_a Z 0 then none else az_e Z i q := by
  unfold zNew zTurn
  rw [z_e_a, z_e_b, z_e_n]
theorem zNew_t {a pr i q k : Nat} : az_t (zNew Z a pr) i q k = if q = az_a Z 0 ∧ ((i = 0 ∧ k < 8) ∨ (i = 1 ∧ k = 0)) then [0, 0] else az_t Z i q k := by
  unfold zNew zTurn
  rw [z_t_a, z_t_b, z_t_n]
theorem mR.crt (h : mR b Z M) {M1 : pm_N} {a pr : Nat} (hn : az_a Z 0 < 60) (e1 : ∀ s k, 2 ≤ s → M1.1 s k = M.1 s k) (e2 : ∀ f, M1.2 f = if f = 25 then nI (az_a Z 0 + 1) else M.2 f) (e3 : ∀ t w, ¬ (8 * az_a Z 0 ≤ t ∧ t < 8 * az_a Z 0 + 8) → sl M t w → sl M1 t w) (e4 : ∀ j, j < 8 → sl M1 (8 * az_a Z 0 + j) [0, 0]) : mR b (zNew Z a pr) (mx (mi (mx (mx (mx (mx M1 7 (az_a Z 0) (nI a)) 8 (az_a Z 0) (nI pr)) 9 (az_a Z 0) (-1)) 6 (az_a Z 0) 0) 26 (nI (az_a Z 3 + 1))) 23 (az_a Z 0) (nI (az_a Z 3 + 1))) := by
  obtain ⟨g1, g2, g3, g4, g5, g6, g7, g8, g9, g10, g11, g12⟩ := h
  have a0 : az_a (zNew Z a pr) 0 = az_a Z 0 + 1 := by rw [zNew_a, if_neg (by decide), if_pos rfl]
  have a1 : az_a (zNew Z a pr) 1 = az_a Z 1 := by rw [zNew_a, if_neg (by decide), if_neg (by decide)]
  have a9 : az_a (zNew Z a pr) 9 = az_a Z 9 := by rw [zNew_a, if_neg (by decide), if_neg (by decide)]
  have c2 : ∀ q, q < az_a Z 0 + 1 → q < az_a Z 0 ∨ q = az_a Z 0 := fun q hq => by omega
  have zr := g12 (az_a Z 0) (Nat.le_refl _) hn
  refine ⟨?_, ?_, ?_, ?_, ?_, ?_, ?_, ?_, ?_, ?_, ?_, ?_⟩
  · intro q hq s i hs
    have hss := tmB_s hs
    rw [a0] at hq
    rcases c2 q hq with h | rfl
    · have e : q ≠ az_a Z 0 := by omega
      rw [mx_k e, mi_1, mx_k e, mx_k e, mx_k e, mx_k e, e1 s q (by omega), zNew_bo e]; exact g1 q h s i hs
    · rcases hss with rfl | rfl | rfl | rfl | rfl | rfl | rfl | rfl | rfl <;> cases hs
      · rw [mx_o (by decide), mi_1, mx_s, zNew_bn (by decide) (by decide) (by decide)]; rfl
      · rw [mx_o (by decide), mi_1, mx_o (by decide), mx_o (by decide), mx_o (by decide), mx_s, zNew_b, if_neg (fun z => by omega), if_pos rfl, if_neg (by decide), if_pos rfl]
      · rw [mx_o (by decide), mi_1, mx_o (by decide), mx_o (by decide), mx_s, zNew_b, if_neg (fun z => by omega), if_pos rfl, if_pos rfl]
      · rw [mx_o (by decide), mi_1, mx_o (by decide), mx_o (by decide), mx_o (by decide), mx_o (by decide), e1 11 _ (by decide), zNew_bn (by decide) (by decide) (by decide)]; exact zr 11 (by omega)
      · rw [mx_o (by decide), mi_1, mx_o (by decide), mx_o (by decide), mx_o (by decide), mx_o (by decide), e1 12 _ (by decide), zNew_bn (by decide) (by decide) (by decide)]; exact zr 12 (by omega)
      · rw [mx_o (by decide), mi_1, mx_o (by decide), mx_o (by decide), mx_o (by decide), mx_o (by decide), e1 14 _ (by decide), zNew_bn (by decide) (by decide) (by decide)]; exact zr 14 (by omega)
      · rw [mx_o (by decide), mi_1, mx_o (by decide), mx_o (by decide), mx_o (by decide), mx_o (by decide), e1 17 _ (by decide), zNew_bn (by decide) (by decide) (by decide)]; exact zr 17 (by omega)
      · rw [mx_o (by decide), mi_1, mx_o (by decide), mx_o (by decide), mx_o (by decide), mx_o (by decide), e1 18 _ (by decide), zNew_bn (by decide) (by decide) (by decide)]; exact zr 18 (by omega)
      · rw [mx_o (by decide), mi_1, mx_o (by decide), mx_o (by decide), mx_o (by decide), mx_o (by decide), e1 10 _ (by decide), zNew_bn (by decide) (by decide) (by decide)]; exact zr 10 (by omega)
  · intro f i hf
    rw [mx_2, mi_2, zNew_a]
    by_cases e : f = 26
    · rw [e] at hf; cases hf
      rw [if_pos e, if_pos rfl]
    · rw [if_neg e, if_neg (fun z => e (tmA_inj (i := 3) (by rw [← z]; exact hf) rfl)), mx_2, mx_2, mx_2, mx_2, e2]
      by_cases e9 : f = 25
      · rw [e9] at hf; cases hf
        rw [if_pos e9, if_pos rfl]
      · rw [if_neg e9, if_neg (fun z => e9 (tmA_inj (i := 0) (by rw [← z]; exact hf) rfl))]; exact g2 f i hf
  · intro q hq
    rw [a0] at hq
    rcases c2 q hq with h | rfl
    · have e : q ≠ az_a Z 0 := by omega
      rw [mx_k e, mi_1, mx_k e, mx_k e, mx_k e, mx_k e, e1 23 q (by decide), zNew_bo e]; exact g3 q h
    · rw [mx_s, zNew_b, if_pos ⟨rfl, rfl⟩]
  · intro q hq
    rw [a0] at hq
    rcases c2 q hq with h | rfl
    · have e : q ≠ az_a Z 0 := by omega
      rw [mx_k e, mi_1, mx_k e, mx_k e, mx_k e, mx_k e, e1 9 q (by decide), zNew_e, if_neg (fun z => e z.2)]; exact g4 q h
    · rw [mx_o (by decide), mi_1, mx_o (by decide), mx_s, zNew_e, if_pos ⟨Or.inl rfl, rfl⟩]; rfl
  · intro q hq
    rw [a0] at hq
    rcases c2 q hq with h | rfl
    · have e : q ≠ az_a Z 0 := by omega
      exact rQ_cg (g5 q h) (by rw [mx_k e, mi_1, mx_k e, mx_k e, mx_k e, mx_k e, e1 22 q (by decide)]) (by rw [mx_k e, mi_1, mx_k e, mx_k e, mx_k e, mx_k e, e1 19 q (by decide)]) (by rw [mx_k e, mi_1, mx_k e, mx_k e, mx_k e, mx_k e, e1 21 q (by decide)]) (by rw [mx_k e, mi_1, mx_k e, mx_k e, mx_k e, mx_k e, e1 20 q (by decide)]) (zNew_bo e) (zNew_bo e) (zNew_bo e) (by rw [zNew_e, if_neg (fun z => e z.2)])
    · have z1 : az_b (zNew Z a pr) 1 (az_a Z 0) = 0 := zNew_bn (by decide) (by decide) (by decide)
      exact ⟨fun _ => by rw [mx_o (by decide), mi_1, mx_o (by decide), mx_o (by decide), mx_o (by decide), mx_o (by decide), e1 22 _ (by decide)]; exact zr 22 (by omega), fun z => by rw [z1] at z; cases z⟩
  · intro q hq
    rw [a0] at hq
    rcases c2 q hq with h | rfl
    · have e : q ≠ az_a Z 0 := by omega
      exact rK_cg (g6 q h) (fun i => by rw [mx_o (by decide), mi_1, mx_o (by decide), mx_o (by decide), mx_o (by decide), mx_o (by decide), e1 13 _ (by decide)]) (fun i => by rw [mx_o (by decide), mi_1, mx_o (by decide), mx_o (by decide), mx_o (by decide), mx_o (by decide), e1 15 _ (by decide)]) (fun i => by rw [mx_o (by decide), mi_1, mx_o (by decide), mx_o (by decide), mx_o (by decide), mx_o (by decide), e1 16 _ (by decide)]) (zNew_bo e) (zNew_bo e) rfl
    · refine ⟨fun i hi => ?_, fun i hi => ?_⟩
      · rw [zNew_bn (by decide) (by decide) (by decide)] at hi; exact absurd hi (by omega)
      · rw [zNew_bn (by decide) (by decide) (by decide)] at hi; exact absurd hi (by omega)
  · exact fun q r hq hr => by rw [mx_o (by decide), mi_1, mx_o (by decide), mx_o (by decide), mx_o (by decide), mx_o (by decide), e1 24 _ (by decide)]; exact g7 q r hq hr
  · exact ⟨by rw [mx_2, mi_2, if_neg (by decide), mx_2, mx_2, mx_2, mx_2, e2, if_neg (by decide)]; exact g8.1, fun i t hi => by rw [mx_o (by decide), mi_1, mx_o (by decide), mx_o (by decide), mx_o (by decide), mx_o (by decide), e1 27 _ (by decide), mx_o (by decide), mi_1, mx_o (by decide), mx_o (by decide), mx_o (by decide), mx_o (by decide), e1 28 _ (by decide), mx_o (by decide), mi_1, mx_o (by decide), mx_o (by decide), mx_o (by decide), mx_o (by decide), e1 29 _ (by decide)]; exact g8.2 i t hi⟩
  · exact ⟨fun k hk => by rw [mx_o (by decide), mi_1, mx_o (by decide), mx_o (by decide), mx_o (by decide), mx_o (by decide), e1 2 _ (by decide), mx_o (by decide), mi_1, mx_o (by decide), mx_o (by decide), mx_o (by decide), mx_o (by decide), e1 3 _ (by decide), mx_o (by decide), mi_1, mx_o (by decide), mx_o (by decide), mx_o (by decide), mx_o (by decide), e1 4 _ (by decide), mx_o (by decide), mi_1, mx_o (by decide), mx_o (by decide), mx_o (by decide), mx_o (by decide), e1 5 _ (by decide)]; exact g9.1 k hk, fun i hi hi2 => by rw [a9] at hi2; rw [mx_o (by decide), mi_1, mx_o (by decide), mx_o (by decide), mx_o (by decide), mx_o (by decide), e1 34 _ (by decide)]; exact g9.2 i hi hi2⟩
  · exact ⟨by rw [mx_2, mi_2, if_neg (by decide), mx_2, mx_2, mx_2, mx_2, e2, if_neg (by decide), a1]; exact g10.1, by rw [a1]; exact g10.2.1, fun i hi => by rw [a1] at hi; rw [mx_o (by decide), mi_1, mx_o (by decide), mx_o (by decide), mx_o (by decide), mx_o (by decide), e1 32 _ (by decide)]; exact g10.2.2 i hi⟩
  · intro q hq
    rw [a0] at hq
    have cg : ∀ t w, sl M1 t w → sl (mx (mi (mx (mx (mx (mx M1 7 (az_a Z 0) (nI a)) 8 (az_a Z 0) (nI pr)) 9 (az_a Z 0) (-1)) 6 (az_a Z 0) 0) 26 (nI (az_a Z 3 + 1))) 23 (az_a Z 0) (nI (az_a Z 3 + 1))) t w := fun t w h => h.cg (fun k => by rw [mx_o (by decide), mi_1, mx_o (by decide), mx_o (by decide), mx_o (by decide), mx_o (by decide)]) (fun k => by rw [mx_o (by decide), mi_1, mx_o (by decide), mx_o (by decide), mx_o (by decide), mx_o (by decide)])
    rcases c2 q hq with h | rfl
    · have e : q ≠ az_a Z 0 := by omega
      obtain ⟨a1, a2, a3⟩ := g11 q h
      refine ⟨fun j hj => ?_, fun k hk => ?_, fun hd => ?_⟩
      · rw [zNew_t, if_neg (fun z => e z.1)]; exact cg _ _ (e3 _ _ (by omega) (a1 j hj))
      · rw [zNew_bo e] at hk
        rw [zNew_t, if_neg (fun z => e z.1)]; exact cg _ _ (e3 _ _ (by omega) (a2 k hk))
      · rw [zNew_bo e] at hd
        rw [zNew_t, if_neg (fun z => e z.1)]; exact cg _ _ (e3 _ _ (by omega) (a3 hd))
    · refine ⟨fun j hj => ?_, fun k hk => ?_, fun hd => ?_⟩
      · rw [zNew_t, if_pos ⟨rfl, Or.inl ⟨rfl, hj⟩⟩]; exact cg _ _ (e4 j hj)
      · rw [zNew_bn (by decide) (by decide) (by decide)] at hk; exact absurd hk (by omega)
      · rw [zNew_bn (by decide) (by decide) (by decide)] at hd; cases hd
  · intro q hq hq2 s hs
    rw [a0] at hq
    have e : q ≠ az_a Z 0 := by omega
    rw [mx_k e, mi_1, mx_k e, mx_k e, mx_k e, mx_k e, e1 s q (by omega)]
    exact g12 q (by omega) hq2 s hs
end MRW
