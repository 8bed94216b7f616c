/-! the law: one call keeps both sides together -/
theorem nI_3 {t : Nat} (ht : t < 3) (h : nI t = 0) : t = 0 := by
  match t, ht, h with
  | 0, _, _ => rfl
  | 1, _, h => exact absurd h (by decide)
  | 2, _, h => exact absurd h (by decide)
theorem pm_W.more {G : pm_G} {l : Launch} {bs : Nat} {own : String} {cc : ByteArray} {nL : Nat} {ini : Bool} {d kc ks kc' ks' : Nat} {Q : Instr → List Value → pm_S → Prop} {pc : Nat} {L st : List Value} {S : pm_S} (h : pm_W G l bs own cc nL ini d kc ks Q pc L st S) (hc : kc ≤ kc') (hs : ks ≤ ks') : pm_W G l bs own cc nL ini d kc' ks' Q pc L st S := by
  intro p e R s m args below meth c Z hX hE H locs cells slots ls hR hS hL h1 h2
  exact h p e R s m args below meth c Z hX hE H locs cells slots ls hR hS hL (by omega) (by omega)
/-- the room that is left -/
abbrev lw_C (Z : az) (k : Nat) : Nat := 6360 - zU Z + k
abbrev lw_K (Z : az) (k : Nat) : Nat := 49 * (6360 - zU Z) + 6 * k
/-- the law goes on, behind a call -/
def lw_N (G : pm_G) (l : Launch) (bs b : Nat) (S9 : pm_S) (n k : Nat) (Y : pm_Y) : Prop := ∀ (F : az) (S' : pm_S) (Y' : pm_Y) (w5 w6 : Value), zJ (n + 1) F S' Y' → Y'.1 0 = Y.1 0 → Y'.1 20000 = Y.1 20000 → Y'.1 30000 = Y.1 30000 → lw_W G l bs (lw_C F k) (lw_K F k) b S9 744 (lw_L b (Y.1 0) (Y.1 20000) (Y.1 30000) (6 * n) w5 w6) [] S'
theorem lg_word (G : pm_G) (l : Launch) (bs b n k : Nat) (v5 v6 : Value) (S S9 : pm_S) (Z : az) (Y : pm_Y) (A : Nat → Nat) (M : pm_N) (F : az) (w : Int64) (t : Nat) (ht : t < 3) (p1 p2 p3 p4 p5 : Int32) (e1 : pm_x S9 b (6 * n + 1) = p1) (e2 : pm_x S9 b (6 * n + 2) = p2) (e3 : pm_x S9 b (6 * n + 3) = p3) (e4 : pm_x S9 b (6 * n + 4) = p4) (e5 : pm_x S9 b (6 * n + 5) = p5) (h31 : pm_n S9 b < 2 ^ 31) (hj : 6 * n + 6 ≤ pm_n S9 b) (hV : zV n Z F) (kc1 ks1 d7 : Nat) (hd7 : d7 + 1 ≤ 12) (hk1 : kc1 + (6360 - zU F) ≤ 6360 - zU Z + 1) (hs1 : ks1 + 49 * (6360 - zU F) ≤ 49 * (6360 - zU Z) + 6) (post1 : Int32 → pm_S → Prop)
    (hM1 : pm_ML G l bs yL_word cL_word 7 1 10 kc1 ks1 [.ref (Y.1 0), .int p1, .int p2, .int p3, .int p4, .int p5] S post1) (hB : ∀ r S1, post1 r S1 → r = nI t ∧ zB F Y A M S1 w) (pp : pm_S → pm_S → Prop)
    (hm2 : ∀ S1, pm_MX M S1 A S1 → pm_M G l bs yX7_word cX7_word 6 none d7 0 0 [.ref (A 50), .int p1, .int p2, .int p3, .int p4, .int p5] S1 (pm_qv (pp S1)))
    (hp2 : ∀ S1 S2, pp S1 S2 → zD F A t S1 S2) (h50 : A 50 = Y.1 20000) (hN : lw_N G l bs b S9 n k Y) : lw_W G l bs (lw_C Z (k + 1)) (lw_K Z (k + 1)) b S9 96 (lw_L b (Y.1 0) (Y.1 20000) (Y.1 30000) (6 * n) v5 v6) [] S := by
  subst e1 e2 e3 e4 e5
  refine g_word G l bs b (Y.1 0) (Y.1 20000) (Y.1 30000) (6 * n) v5 v6 S S9 _ _ kc1 ks1 (lw_C F k) (lw_K F k) d7 (by unfold lw_C; omega) (by unfold lw_K; omega) h31 hj hd7 post1 (fun _ S1 S2 => pp S1 S2) hM1 (fun r S1 h1 => ?_) (fun r S1 S2 h1 h2 => ?_) (fun r S1 S2 w5 w6 h1 h2 => ?_)
  · obtain ⟨-, hb⟩ := hB r S1 h1
    rw [← h50]
    exact ⟨hb.1.1, hm2 S1 hb.1⟩
  · obtain ⟨e, hb⟩ := hB r S1 h1
    rw [← h50]
    exact (hp2 S1 S2 h2).th G l bs r e
  · obtain ⟨e, hb⟩ := hB r S1 h1
    obtain ⟨-, Y2, e0, e2, e3, hj2⟩ := hb.nx hV (hp2 S1 S2 h2)
    exact hN F S2 Y2 w5 w6 hj2 e0 e2 e3
theorem lg_start (G : pm_G) (l : Launch) (bs b n k : Nat) (v5 v6 : Value) (S S9 : pm_S) (Z : az) (Y : pm_Y) (A : Nat → Nat) (M : pm_N) (F : az) (w : Int64) (t : Nat) (ht : t < 3) (p1 p2 : Int32) (e1 : pm_x S9 b (6 * n + 1) = p1) (e2 : pm_x S9 b (6 * n + 2) = p2) (h31 : pm_n S9 b < 2 ^ 31) (hj : 6 * n + 6 ≤ pm_n S9 b) (hV : zV n Z F) (kc1 ks1 d7 : Nat) (hd7 : d7 + 1 ≤ 12) (hk1 : kc1 + (6360 - zU F) ≤ 6360 - zU Z + 1) (hs1 : ks1 + 49 * (6360 - zU F) ≤ 49 * (6360 - zU Z) + 6) (post1 : Int32 → pm_S → Prop)
    (hM1 : pm_ML G l bs yL_start cL_start 5 2 10 kc1 ks1 [.ref (Y.1 0), .int p1, .int p2, .ref (Y.1 30000)] S post1) (hB : ∀ r S1, post1 r S1 → r = nI t ∧ zB F Y A M S1 w) (pp : pm_S → Int32 → pm_S → Prop)
    (hm2 : ∀ S1, pm_MX M S1 A S1 → pm_M G l bs yX7_start cX7_start 3 (some .int) d7 0 0 [.ref (A 50), .int p1, .int p2] S1 (pm_qi (pp S1)))
    (hp2 : ∀ S1 a S2, pp S1 a S2 → (t = 0 → w = a.toInt64) ∧ zD F A t S1 S2) (h50 : A 50 = Y.1 20000) (hN : lw_N G l bs b S9 n k Y) : lw_W G l bs (lw_C Z (k + 1)) (lw_K Z (k + 1)) b S9 180 (lw_L b (Y.1 0) (Y.1 20000) (Y.1 30000) (6 * n) v5 v6) [] S := by
  subst e1 e2
  refine g_start G l bs b (Y.1 0) (Y.1 20000) (Y.1 30000) (6 * n) v5 v6 S S9 _ _ kc1 ks1 (lw_C F k) (lw_K F k) d7 (by unfold lw_C; omega) (by unfold lw_K; omega) h31 hj hd7 post1 (fun _ S1 a S2 => pp S1 a S2) hM1 (fun r S1 h1 => ?_) (fun r S1 a S2 h1 h2 => ?_) (fun r S1 a S2 h1 h2 hr => ?_) (fun r S1 a S2 w5 w6 h1 h2 => ?_)
  · obtain ⟨-, hb⟩ := hB r S1 h1
    rw [← h50]
    exact ⟨hb.1.1, hm2 S1 hb.1⟩
  · obtain ⟨e, hb⟩ := hB r S1 h1
    rw [← h50]
    exact (hp2 S1 a S2 h2).2.th G l bs r e
  · obtain ⟨e, hb⟩ := hB r S1 h1
    obtain ⟨q1, q2⟩ := hp2 S1 a S2 h2
    have t0 : t = 0 := nI_3 ht (by rw [← e]; exact hr)
    rw [← q1 t0]
    exact (hb.nx hV q2).1
  · obtain ⟨e, hb⟩ := hB r S1 h1
    obtain ⟨-, Y2, e0, e2, e3, hj2⟩ := hb.nx hV (hp2 S1 a S2 h2).2
    exact hN F S2 Y2 w5 w6 hj2 e0 e2 e3
theorem lg_send (G : pm_G) (l : Launch) (bs b n k : Nat) (v5 v6 : Value) (S S9 : pm_S) (Z : az) (Y : pm_Y) (A : Nat → Nat) (M : pm_N) (F : az) (w : Int64) (t : Nat) (ht : t < 3) (p1 p2 : Int32) (e1 : pm_x S9 b (6 * n + 1) = p1) (e2 : pm_x S9 b (6 * n + 2) = p2) (h31 : pm_n S9 b < 2 ^ 31) (hj : 6 * n + 6 ≤ pm_n S9 b) (hV : zV n Z F) (kc1 ks1 d7 : Nat) (hd7 : d7 + 1 ≤ 12) (hk1 : kc1 + (6360 - zU F) ≤ 6360 - zU Z + 1) (hs1 : ks1 + 49 * (6360 - zU F) ≤ 49 * (6360 - zU Z) + 6) (post1 : Int32 → pm_S → Prop)
    (hM1 : pm_ML G l bs yL_send cL_send 5 3 10 kc1 ks1 [.ref (Y.1 0), .int p1, .int p2, .ref (Y.1 30000)] S post1) (hB : ∀ r S1, post1 r S1 → r = nI t ∧ zB F Y A M S1 w) (pp : pm_S → Int32 → pm_S → Prop)
    (hm2 : ∀ S1, pm_MX M S1 A S1 → pm_M G l bs yX7_send cX7_send 3 (some .boolean) d7 0 0 [.ref (A 50), .int p1, .int p2] S1 (pm_qi (pp S1)))
    (hp2 : ∀ S1 a S2, pp S1 a S2 → (t = 0 → w = (if a = 0 then 0 else 1)) ∧ zD F A t S1 S2) (h50 : A 50 = Y.1 20000) (hN : lw_N G l bs b S9 n k Y) : lw_W G l bs (lw_C Z (k + 1)) (lw_K Z (k + 1)) b S9 248 (lw_L b (Y.1 0) (Y.1 20000) (Y.1 30000) (6 * n) v5 v6) [] S := by
  subst e1 e2
  refine g_send G l bs b (Y.1 0) (Y.1 20000) (Y.1 30000) (6 * n) v5 v6 S S9 _ _ kc1 ks1 (lw_C F k) (lw_K F k) d7 (by unfold lw_C; omega) (by unfold lw_K; omega) h31 hj hd7 post1 (fun _ S1 a S2 => pp S1 a S2) hM1 (fun r S1 h1 => ?_) (fun r S1 a S2 h1 h2 => ?_) (fun r S1 a S2 h1 h2 hr => ?_) (fun r S1 a S2 w5 w6 h1 h2 => ?_)
  · obtain ⟨-, hb⟩ := hB r S1 h1
    rw [← h50]
    exact ⟨hb.1.1, hm2 S1 hb.1⟩
  · obtain ⟨e, hb⟩ := hB r S1 h1
    rw [← h50]
    exact (hp2 S1 a S2 h2).2.th G l bs r e
  · obtain ⟨e, hb⟩ := hB r S1 h1
    obtain ⟨q1, q2⟩ := hp2 S1 a S2 h2
    have t0 : t = 0 := nI_3 ht (by rw [← e]; exact hr)
    rw [← q1 t0]
    exact (hb.nx hV q2).1
  · obtain ⟨e, hb⟩ := hB r S1 h1
    obtain ⟨-, Y2, e0, e2, e3, hj2⟩ := hb.nx hV (hp2 S1 a S2 h2).2
    exact hN F S2 Y2 w5 w6 hj2 e0 e2 e3
theorem lg_run (G : pm_G) (l : Launch) (bs b n k : Nat) (v5 v6 : Value) (S S9 : pm_S) (Z : az) (Y : pm_Y) (A : Nat → Nat) (M : pm_N) (F : az) (w : Int64) (t : Nat) (ht : t < 3) (p1 : Int32) (e1 : pm_x S9 b (6 * n + 1) = p1) (h31 : pm_n S9 b < 2 ^ 31) (hj : 6 * n + 6 ≤ pm_n S9 b) (hV : zV n Z F) (kc1 ks1 d7 : Nat) (hd7 : d7 + 1 ≤ 12) (hk1 : kc1 + (6360 - zU F) ≤ 6360 - zU Z + 1) (hs1 : ks1 + 49 * (6360 - zU F) ≤ 49 * (6360 - zU Z) + 6) (post1 : Int32 → pm_S → Prop)
    (hM1 : pm_ML G l bs yL_run cL_run 4 4 10 kc1 ks1 [.ref (Y.1 0), .int p1, .ref (Y.1 30000)] S post1) (hB : ∀ r S1, post1 r S1 → r = nI t ∧ zB F Y A M S1 w) (pp : pm_S → Int32 → pm_S → Prop)
    (hm2 : ∀ S1, pm_MX M S1 A S1 → pm_M G l bs yX7_run cX7_run 7 (some .int) d7 0 0 [.ref (A 50), .int p1] S1 (pm_qi (pp S1)))
    (hp2 : ∀ S1 a S2, pp S1 a S2 → (t = 0 → w = a.toInt64) ∧ zD F A t S1 S2) (h50 : A 50 = Y.1 20000) (hN : lw_N G l bs b S9 n k Y) : lw_W G l bs (lw_C Z (k + 1)) (lw_K Z (k + 1)) b S9 323 (lw_L b (Y.1 0) (Y.1 20000) (Y.1 30000) (6 * n) v5 v6) [] S := by
  subst e1
  refine g_run G l bs b (Y.1 0) (Y.1 20000) (Y.1 30000) (6 * n) v5 v6 S S9 _ _ kc1 ks1 (lw_C F k) (lw_K F k) d7 (by unfold lw_C; omega) (by unfold lw_K; omega) h31 hj hd7 post1 (fun _ S1 a S2 => pp S1 a S2) hM1 (fun r S1 h1 => ?_) (fun r S1 a S2 h1 h2 => ?_) (fun r S1 a S2 h1 h2 hr => ?_) (fun r S1 a S2 w5 w6 h1 h2 => ?_)
  · obtain ⟨-, hb⟩ := hB r S1 h1
    rw [← h50]
    exact ⟨hb.1.1, hm2 S1 hb.1⟩
  · obtain ⟨e, hb⟩ := hB r S1 h1
    rw [← h50]
    exact (hp2 S1 a S2 h2).2.th G l bs r e
  · obtain ⟨e, hb⟩ := hB r S1 h1
    obtain ⟨q1, q2⟩ := hp2 S1 a S2 h2
    have t0 : t = 0 := nI_3 ht (by rw [← e]; exact hr)
    rw [← q1 t0]
    exact (hb.nx hV q2).1
  · obtain ⟨e, hb⟩ := hB r S1 h1
    obtain ⟨-, Y2, e0, e2, e3, hj2⟩ := hb.nx hV (hp2 S1 a S2 h2).2
    exact hN F S2 Y2 w5 w6 hj2 e0 e2 e3
theorem lg_pass (G : pm_G) (l : Launch) (bs b n k : Nat) (v5 v6 : Value) (S S9 : pm_S) (Z : az) (Y : pm_Y) (A : Nat → Nat) (M : pm_N) (F : az) (w : Int64) (t : Nat) (ht : t < 3) (p1 : Int32) (e1 : pm_x S9 b (6 * n + 1) = p1) (h31 : pm_n S9 b < 2 ^ 31) (hj : 6 * n + 6 ≤ pm_n S9 b) (hV : zV n Z F) (kc1 ks1 d7 : Nat) (hd7 : d7 + 1 ≤ 12) (hk1 : kc1 + (6360 - zU F) ≤ 6360 - zU Z + 1) (hs1 : ks1 + 49 * (6360 - zU F) ≤ 49 * (6360 - zU Z) + 6) (post1 : Int32 → pm_S → Prop)
    (hM1 : pm_ML G l bs yL_pass cL_pass 4 5 10 kc1 ks1 [.ref (Y.1 0), .int p1, .ref (Y.1 30000)] S post1) (hB : ∀ r S1, post1 r S1 → r = nI t ∧ zB F Y A M S1 w) (pp : pm_S → Int32 → pm_S → Prop)
    (hm2 : ∀ S1, pm_MX M S1 A S1 → pm_M G l bs yX7_pass cX7_pass 5 (some .int) d7 0 0 [.ref (A 50), .int p1] S1 (pm_qi (pp S1)))
    (hp2 : ∀ S1 a S2, pp S1 a S2 → (t = 0 → w = a.toInt64) ∧ zD F A t S1 S2) (h50 : A 50 = Y.1 20000) (hN : lw_N G l bs b S9 n k Y) : lw_W G l bs (lw_C Z (k + 1)) (lw_K Z (k + 1)) b S9 379 (lw_L b (Y.1 0) (Y.1 20000) (Y.1 30000) (6 * n) v5 v6) [] S := by
  subst e1
  refine g_pass G l bs b (Y.1 0) (Y.1 20000) (Y.1 30000) (6 * n) v5 v6 S S9 _ _ kc1 ks1 (lw_C F k) (lw_K F k) d7 (by unfold lw_C; omega) (by unfold lw_K; omega) h31 hj hd7 post1 (fun _ S1 a S2 => pp S1 a S2) hM1 (fun r S1 h1 => ?_) (fun r S1 a S2 h1 h2 => ?_) (fun r S1 a S2 h1 h2 hr => ?_) (fun r S1 a S2 w5 w6 h1 h2 => ?_)
  · obtain ⟨-, hb⟩ := hB r S1 h1
    rw [← h50]
    exact ⟨hb.1.1, hm2 S1 hb.1⟩
  · obtain ⟨e, hb⟩ := hB r S1 h1
    rw [← h50]
    exact (hp2 S1 a S2 h2).2.th G l bs r e
  · obtain ⟨e, hb⟩ := hB r S1 h1
    obtain ⟨q1, q2⟩ := hp2 S1 a S2 h2
    have t0 : t = 0 := nI_3 ht (by rw [← e]; exact hr)
    rw [← q1 t0]
    exact (hb.nx hV q2).1
  · obtain ⟨e, hb⟩ := hB r S1 h1
    obtain ⟨-, Y2, e0, e2, e3, hj2⟩ := hb.nx hV (hp2 S1 a S2 h2).2
    exact hN F S2 Y2 w5 w6 hj2 e0 e2 e3
theorem lg_process (G : pm_G) (l : Launch) (bs b n k : Nat) (v5 v6 : Value) (S S9 : pm_S) (Z : az) (Y : pm_Y) (A : Nat → Nat) (M : pm_N) (F : az) (w : Int64) (t : Nat) (ht : t < 3) (p1 p2 : Int32) (e1 : pm_x S9 b (6 * n + 1) = p1) (e2 : pm_x S9 b (6 * n + 2) = p2) (h31 : pm_n S9 b < 2 ^ 31) (hj : 6 * n + 6 ≤ pm_n S9 b) (hV : zV n Z F) (kc1 ks1 d7 : Nat) (hd7 : d7 + 1 ≤ 12) (hk1 : kc1 + (6360 - zU F) ≤ 6360 - zU Z + 1) (hs1 : ks1 + 49 * (6360 - zU F) ≤ 49 * (6360 - zU Z) + 6) (post1 : Int32 → pm_S → Prop)
    (hM1 : pm_ML G l bs yL_process cL_process 5 6 10 kc1 ks1 [.ref (Y.1 0), .int p1, .int p2, .ref (Y.1 30000)] S post1) (hB : ∀ r S1, post1 r S1 → r = nI t ∧ zB F Y A M S1 w) (pp : pm_S → Int32 → pm_S → Prop)
    (hm2 : ∀ S1, pm_MX M S1 A S1 → pm_M G l bs yX7_process cX7_process 6 (some .int) d7 0 0 [.ref (A 50), .int p1, .int p2] S1 (pm_qi (pp S1)))
    (hp2 : ∀ S1 a S2, pp S1 a S2 → (t = 0 → w = a.toInt64) ∧ zD F A t S1 S2) (h50 : A 50 = Y.1 20000) (hN : lw_N G l bs b S9 n k Y) : lw_W G l bs (lw_C Z (k + 1)) (lw_K Z (k + 1)) b S9 460 (lw_L b (Y.1 0) (Y.1 20000) (Y.1 30000) (6 * n) v5 v6) [] S := by
  subst e1 e2
  refine g_process G l bs b (Y.1 0) (Y.1 20000) (Y.1 30000) (6 * n) v5 v6 S S9 _ _ kc1 ks1 (lw_C F k) (lw_K F k) d7 (by unfold lw_C; omega) (by unfold lw_K; omega) h31 hj hd7 post1 (fun _ S1 a S2 => pp S1 a S2) hM1 (fun r S1 h1 => ?_) (fun r S1 a S2 h1 h2 => ?_) (fun r S1 a S2 h1 h2 hr => ?_) (fun r S1 a S2 w5 w6 h1 h2 => ?_)
  · obtain ⟨-, hb⟩ := hB r S1 h1
    rw [← h50]
    exact ⟨hb.1.1, hm2 S1 hb.1⟩
  · obtain ⟨e, hb⟩ := hB r S1 h1
    rw [← h50]
    exact (hp2 S1 a S2 h2).2.th G l bs r e
  · obtain ⟨e, hb⟩ := hB r S1 h1
    obtain ⟨q1, q2⟩ := hp2 S1 a S2 h2
    have t0 : t = 0 := nI_3 ht (by rw [← e]; exact hr)
    rw [← q1 t0]
    exact (hb.nx hV q2).1
  · obtain ⟨e, hb⟩ := hB r S1 h1
    obtain ⟨-, Y2, e0, e2, e3, hj2⟩ := hb.nx hV (hp2 S1 a S2 h2).2
    exact hN F S2 Y2 w5 w6 hj2 e0 e2 e3
theorem lg_register (G : pm_G) (l : Launch) (bs b n k : Nat) (v5 v6 : Value) (S S9 : pm_S) (Z : az) (Y : pm_Y) (A : Nat → Nat) (M : pm_N) (F : az) (w : Int64) (t : Nat) (ht : t < 3) (p1 p2 p3 : Int32) (e1 : pm_x S9 b (6 * n + 1) = p1) (e2 : pm_x S9 b (6 * n + 2) = p2) (e3 : pm_x S9 b (6 * n + 3) = p3) (h31 : pm_n S9 b < 2 ^ 31) (hj : 6 * n + 6 ≤ pm_n S9 b) (hV : zV n Z F) (kc1 ks1 d7 : Nat) (hd7 : d7 + 1 ≤ 12) (hk1 : kc1 + (6360 - zU F) ≤ 6360 - zU Z + 1) (hs1 : ks1 + 49 * (6360 - zU F) ≤ 49 * (6360 - zU Z) + 6) (post1 : Int32 → pm_S → Prop)
    (hM1 : pm_ML G l bs yL_register cL_register 6 7 10 kc1 ks1 [.ref (Y.1 0), .int p1, .int p2, .int p3, .ref (Y.1 30000)] S post1) (hB : ∀ r S1, post1 r S1 → r = nI t ∧ zB F Y A M S1 w) (pp : pm_S → Int32 → pm_S → Prop)
    (hm2 : ∀ S1, pm_MX M S1 A S1 → pm_M G l bs yX7_register cX7_register 4 (some .int) d7 0 0 [.ref (A 50), .int p1, .int p2, .int p3] S1 (pm_qi (pp S1)))
    (hp2 : ∀ S1 a S2, pp S1 a S2 → (t = 0 → w = a.toInt64) ∧ zD F A t S1 S2) (h50 : A 50 = Y.1 20000) (hN : lw_N G l bs b S9 n k Y) : lw_W G l bs (lw_C Z (k + 1)) (lw_K Z (k + 1)) b S9 528 (lw_L b (Y.1 0) (Y.1 20000) (Y.1 30000) (6 * n) v5 v6) [] S := by
  subst e1 e2 e3
  refine g_register G l bs b (Y.1 0) (Y.1 20000) (Y.1 30000) (6 * n) v5 v6 S S9 _ _ kc1 ks1 (lw_C F k) (lw_K F k) d7 (by unfold lw_C; omega) (by unfold lw_K; omega) h31 hj hd7 post1 (fun _ S1 a S2 => pp S1 a S2) hM1 (fun r S1 h1 => ?_) (fun r S1 a S2 h1 h2 => ?_) (fun r S1 a S2 h1 h2 hr => ?_) (fun r S1 a S2 w5 w6 h1 h2 => ?_)
  · obtain ⟨-, hb⟩ := hB r S1 h1
    rw [← h50]
    exact ⟨hb.1.1, hm2 S1 hb.1⟩
  · obtain ⟨e, hb⟩ := hB r S1 h1
    rw [← h50]
    exact (hp2 S1 a S2 h2).2.th G l bs r e
  · obtain ⟨e, hb⟩ := hB r S1 h1
    obtain ⟨q1, q2⟩ := hp2 S1 a S2 h2
    have t0 : t = 0 := nI_3 ht (by rw [← e]; exact hr)
    rw [← q1 t0]
    exact (hb.nx hV q2).1
  · obtain ⟨e, hb⟩ := hB r S1 h1
    obtain ⟨-, Y2, e0, e2, e3, hj2⟩ := hb.nx hV (hp2 S1 a S2 h2).2
    exact hN F S2 Y2 w5 w6 hj2 e0 e2 e3
theorem lg_message (G : pm_G) (l : Launch) (bs b n k : Nat) (v5 v6 : Value) (S S9 : pm_S) (Z : az) (Y : pm_Y) (A : Nat → Nat) (M : pm_N) (F : az) (w : Int64) (t : Nat) (ht : t < 3) (p1 p2 p3 : Int32) (e1 : pm_x S9 b (6 * n + 1) = p1) (e2 : pm_x S9 b (6 * n + 2) = p2) (e3 : pm_x S9 b (6 * n + 3) = p3) (h31 : pm_n S9 b < 2 ^ 31) (hj : 6 * n + 6 ≤ pm_n S9 b) (hV : zV n Z F) (kc1 ks1 d7 : Nat) (hd7 : d7 + 1 ≤ 12) (hk1 : kc1 + (6360 - zU F) ≤ 6360 - zU Z + 1) (hs1 : ks1 + 49 * (6360 - zU F) ≤ 49 * (6360 - zU Z) + 6) (post1 : Int32 → pm_S → Prop)
    (hM1 : pm_ML G l bs yL_message cL_message 6 8 10 kc1 ks1 [.ref (Y.1 0), .int p1, .int p2, .int p3, .ref (Y.1 30000)] S post1) (hB : ∀ r S1, post1 r S1 → r = nI t ∧ zB F Y A M S1 w) (pp : pm_S → Int32 → pm_S → Prop)
    (hm2 : ∀ S1, pm_MX M S1 A S1 → pm_M G l bs yX7_message cX7_message 4 (some .int) d7 0 0 [.ref (A 50), .int p1, .int p2, .int p3] S1 (pm_qi (pp S1)))
    (hp2 : ∀ S1 a S2, pp S1 a S2 → (t = 0 → w = a.toInt64) ∧ zD F A t S1 S2) (h50 : A 50 = Y.1 20000) (hN : lw_N G l bs b S9 n k Y) : lw_W G l bs (lw_C Z (k + 1)) (lw_K Z (k + 1)) b S9 608 (lw_L b (Y.1 0) (Y.1 20000) (Y.1 30000) (6 * n) v5 v6) [] S := by
  subst e1 e2 e3
  refine g_message G l bs b (Y.1 0) (Y.1 20000) (Y.1 30000) (6 * n) v5 v6 S S9 _ _ kc1 ks1 (lw_C F k) (lw_K F k) d7 (by unfold lw_C; omega) (by unfold lw_K; omega) h31 hj hd7 post1 (fun _ S1 a S2 => pp S1 a S2) hM1 (fun r S1 h1 => ?_) (fun r S1 a S2 h1 h2 => ?_) (fun r S1 a S2 h1 h2 hr => ?_) (fun r S1 a S2 w5 w6 h1 h2 => ?_)
  · obtain ⟨-, hb⟩ := hB r S1 h1
    rw [← h50]
    exact ⟨hb.1.1, hm2 S1 hb.1⟩
  · obtain ⟨e, hb⟩ := hB r S1 h1
    rw [← h50]
    exact (hp2 S1 a S2 h2).2.th G l bs r e
  · obtain ⟨e, hb⟩ := hB r S1 h1
    obtain ⟨q1, q2⟩ := hp2 S1 a S2 h2
    have t0 : t = 0 := nI_3 ht (by rw [← e]; exact hr)
    rw [← q1 t0]
    exact (hb.nx hV q2).1
  · obtain ⟨e, hb⟩ := hB r S1 h1
    obtain ⟨-, Y2, e0, e2, e3, hj2⟩ := hb.nx hV (hp2 S1 a S2 h2).2
    exact hN F S2 Y2 w5 w6 hj2 e0 e2 e3
theorem lg_total (G : pm_G) (l : Launch) (bs b n k : Nat) (v5 v6 : Value) (S S9 : pm_S) (Z : az) (Y : pm_Y) (A : Nat → Nat) (M : pm_N) (F : az) (w : Int64) (t : Nat) (ht : t < 3) (p1 : Int32) (e1 : pm_x S9 b (6 * n + 1) = p1) (h31 : pm_n S9 b < 2 ^ 31) (hj : 6 * n + 6 ≤ pm_n S9 b) (hV : zV n Z F) (kc1 ks1 d7 : Nat) (hd7 : d7 + 1 ≤ 12) (hk1 : kc1 + (6360 - zU F) ≤ 6360 - zU Z + 1) (hs1 : ks1 + 49 * (6360 - zU F) ≤ 49 * (6360 - zU Z) + 6) (post1 : Int32 → pm_S → Prop)
    (hM1 : pm_ML G l bs yL_total cL_total 4 9 10 kc1 ks1 [.ref (Y.1 0), .int p1, .ref (Y.1 30000)] S post1) (hB : ∀ r S1, post1 r S1 → r = nI t ∧ zB F Y A M S1 w) (pp : pm_S → Int32 → pm_S → Prop)
    (hm2 : ∀ S1, pm_MX M S1 A S1 → pm_M G l bs yX7_total cX7_total 5 (some .int) d7 0 0 [.ref (A 50), .int p1] S1 (pm_qi (pp S1)))
    (hp2 : ∀ S1 a S2, pp S1 a S2 → (t = 0 → w = a.toInt64) ∧ zD F A t S1 S2) (h50 : A 50 = Y.1 20000) (hN : lw_N G l bs b S9 n k Y) : lw_W G l bs (lw_C Z (k + 1)) (lw_K Z (k + 1)) b S9 688 (lw_L b (Y.1 0) (Y.1 20000) (Y.1 30000) (6 * n) v5 v6) [] S := by
  subst e1
  refine g_total G l bs b (Y.1 0) (Y.1 20000) (Y.1 30000) (6 * n) v5 v6 S S9 _ _ kc1 ks1 (lw_C F k) (lw_K F k) d7 (by unfold lw_C; omega) (by unfold lw_K; omega) h31 hj hd7 post1 (fun _ S1 a S2 => pp S1 a S2) hM1 (fun r S1 h1 => ?_) (fun r S1 a S2 h1 h2 => ?_) (fun r S1 a S2 h1 h2 hr => ?_) (fun r S1 a S2 w5 w6 h1 h2 => ?_)
  · obtain ⟨-, hb⟩ := hB r S1 h1
    rw [← h50]
    exact ⟨hb.1.1, hm2 S1 hb.1⟩
  · obtain ⟨e, hb⟩ := hB r S1 h1
    rw [← h50]
    exact (hp2 S1 a S2 h2).2.th G l bs r e
  · obtain ⟨e, hb⟩ := hB r S1 h1
    obtain ⟨q1, q2⟩ := hp2 S1 a S2 h2
    have t0 : t = 0 := nI_3 ht (by rw [← e]; exact hr)
    rw [← q1 t0]
    exact (hb.nx hV q2).1
  · obtain ⟨e, hb⟩ := hB r S1 h1
    obtain ⟨-, Y2, e0, e2, e3, hj2⟩ := hb.nx hV (hp2 S1 a S2 h2).2
    exact hN F S2 Y2 w5 w6 hj2 e0 e2 e3
theorem lo_word (G : pm_G) (l : Launch) (hl : l.stackTraces = false) (bs b n k : Nat) (v5 v6 : Value) (S S9 : pm_S) (Z : az) (Y : pm_Y) (h31 : pm_n S9 b < 2 ^ 31) (hn : n ≤ 512) (hj : 6 * n + 6 ≤ pm_n S9 b) (hJ : zJ n Z S Y) (hN : lw_N G l bs b S9 n k Y) : lw_W G l bs (lw_C Z (k + 1)) (lw_K Z (k + 1)) b S9 96 (lw_L b (Y.1 0) (Y.1 20000) (Y.1 30000) (6 * n) v5 v6) [] S := by
  have hV0 := zV.same hJ
  obtain ⟨hx, ⟨A, M, hm, hr, h50, hA⟩, h21, hI, hO, hb, ko, no⟩ := id hJ
  have hu := hI.u
  have hn60 := hI.1
  have k7 : pm_k S (Y.1 0) = 7 := hx.1.2.2.1.1.1
  by_cases hv : (0 ≤ pm_x S9 b (6 * n + 1) ∧ pm_x S9 b (6 * n + 1) ≤ 299) ∧ (0 ≤ pm_x S9 b (6 * n + 2) ∧ pm_x S9 b (6 * n + 2) ≤ 36)
  · obtain ⟨⟨u1, u2⟩, u3, u4⟩ := hv
    obtain ⟨i, hi, e1⟩ := i32_of (m := 299) (by decide) u1 u2
    obtain ⟨m, hm36, e2⟩ := i32_of (m := 36) (by decide) u3 u4
    have hVF := zV.put (k := i) (m := m) (a := pm_x S9 b (6 * n + 3)) (b := pm_x S9 b (6 * n + 4)) (c := pm_x S9 b (6 * n + 5)) hJ (by omega)
    have hu2 := hVF.1.u
    have hu3 := hVF.2.2.2
    refine lg_word G l bs b n k v5 v6 S S9 Z Y A M (zPut Z i (nI m) (pm_x S9 b (6 * n + 3)) (pm_x S9 b (6 * n + 4)) (pm_x S9 b (6 * n + 5))) (pm_y S (Y.1 30000) 0) 0 (by decide) (nI i) (nI m) (pm_x S9 b (6 * n + 3)) (pm_x S9 b (6 * n + 4)) (pm_x S9 b (6 * n + 5)) e1 e2 rfl rfl rfl h31 hj hVF _ _ _ (by decide) (by omega) (by omega) _ (k_word G l hl bs _ 0 _ _ _ _ _ S k7 _ 1 0 0 (by decide) (c_X6_word G l bs Z Y S 0 i m (pm_x S9 b (6 * n + 3)) (pm_x S9 b (6 * n + 4)) (pm_x S9 b (6 * n + 5)) S hx hI (by omega) (by omega))) (fun r S1 h => ?_) _ (fun S1 h1 => c_X7_word G l bs A S1 M _ Z 0 i m (pm_x S9 b (6 * n + 3)) (pm_x S9 b (6 * n + 4)) (pm_x S9 b (6 * n + 5)) S1 h1 hr hI (by omega) (by omega)) (fun S1 S2 h => ?_) h50 hN
    · obtain ⟨rfl, hx2⟩ := h
      have hE := hx2.1.2.2.2.2.2.2.2.2.2.2.2.2.2.2 30000 (Or.inr rfl)
      have hw := zB.w (Z := Z) hx2 yLe.rf hVF.1.1 hm h50 hA ko no
      rw [hE.2.2.2.2.2.2.1 0] at hw
      exact ⟨rfl, hw⟩
    · exact ⟨h21, h⟩
  · refine lg_word G l bs b n k v5 v6 S S9 Z Y A M Z (pm_y S (Y.1 30000) 0) 1 (by decide) (pm_x S9 b (6 * n + 1)) (pm_x S9 b (6 * n + 2)) (pm_x S9 b (6 * n + 3)) (pm_x S9 b (6 * n + 4)) (pm_x S9 b (6 * n + 5)) rfl rfl rfl rfl rfl h31 hj hV0 1 6 _ (by decide) (by omega) (by omega) _ (f_word G l hl bs _ 0 _ _ _ _ _ S k7 (t_X6_word G l hl bs Z Y S (pm_x S9 b (6 * n + 1)) (pm_x S9 b (6 * n + 2)) (pm_x S9 b (6 * n + 3)) (pm_x S9 b (6 * n + 4)) (pm_x S9 b (6 * n + 5)) S hx hI.1 hv)) (fun r S1 h => ?_) _ (fun S1 h1 => r_X7_word G l bs A S1 M _ Z 0 (pm_x S9 b (6 * n + 1)) (pm_x S9 b (6 * n + 2)) (pm_x S9 b (6 * n + 3)) (pm_x S9 b (6 * n + 4)) (pm_x S9 b (6 * n + 5)) S1 h1 hr hI hv) (fun S1 S2 h => ?_) h50 hN
    · obtain ⟨rfl, rfl⟩ := h
      exact ⟨rfl, zB.w (Z := Z) hx yLe.rf hI.1 hm h50 hA ko no⟩
    · exact ⟨h21, h⟩
theorem lo_start (G : pm_G) (l : Launch) (hl : l.stackTraces = false) (bs b n k : Nat) (v5 v6 : Value) (S S9 : pm_S) (Z : az) (Y : pm_Y) (h31 : pm_n S9 b < 2 ^ 31) (hn : n ≤ 512) (hj : 6 * n + 6 ≤ pm_n S9 b) (hJ : zJ n Z S Y) (hN : lw_N G l bs b S9 n k Y) : lw_W G l bs (lw_C Z (k + 1)) (lw_K Z (k + 1)) b S9 180 (lw_L b (Y.1 0) (Y.1 20000) (Y.1 30000) (6 * n) v5 v6) [] S := by
  have hV0 := zV.same hJ
  obtain ⟨hx, ⟨A, M, hm, hr, h50, hA⟩, h21, hI, hO, hb, ko, no⟩ := id hJ
  have hu := hI.u
  have hn60 := hI.1
  have k7 : pm_k S (Y.1 0) = 7 := hx.1.2.2.1.1.1
  by_cases hv : (0 ≤ pm_x S9 b (6 * n + 1) ∧ pm_x S9 b (6 * n + 1) ≤ 299) ∧ (0 ≤ pm_x S9 b (6 * n + 2) ∧ pm_x S9 b (6 * n + 2) ≤ 2)
  · obtain ⟨⟨u1, u2⟩, u3, u4⟩ := hv
    obtain ⟨i, hi, e1⟩ := i32_of (m := 299) (by decide) u1 u2
    obtain ⟨m, hm2, e2⟩ := i32_of (m := 2) (by decide) u3 u4
    by_cases hlt : az_a Z 0 < 60
    · have hVF := zV.new hJ hlt (a := i) (pr := m) (by omega) (by omega)
      have hU := (zNew_U Z i m).2
      have hu2 := hVF.1.u
      have hu3 := hVF.2.2.2
      refine lg_start G l bs b n k v5 v6 S S9 Z Y A M (zNew Z i m) (nI (az_a Z 0 + 1)).toInt64 0 (by decide) (nI i) (nI m) e1 e2 h31 hj hVF _ _ _ (by decide) (by omega) (by omega) _ (k_start G l hl bs _ _ _ _ S k7 _ _ _ _ (by decide) (fun a S2 h => by obtain ⟨-, Y2, hy, hx2⟩ := h; exact zB.o (Z := Z) hx2 hy ko no) (c_X6_start G l bs Z Y S 0 i m S hx hI hlt (by omega) (by omega))) (fun r S1 h => ?_) _ (fun S1 h1 => c_X7_start G l bs A S1 M _ Z 0 i m S1 h1 hr hI (by omega) (by omega) hlt) (fun S1 a S2 h => ?_) h50 hN
      · obtain ⟨rfl, a, S2, ⟨rfl, Y2, hy, hx2⟩, rfl⟩ := h
        exact ⟨rfl, zB.of (Z := Z) hx2 hy hVF.1.1 hm h50 hA ko no⟩
      · obtain ⟨rfl, A2, M2, q1, q2, q3, q4⟩ := h
        have ea : az_a (zNew Z i m) 2 = az_a Z 2 := by rw [zNew_a]; rfl
        exact ⟨fun _ => rfl, by rw [zNew_a, zNew_a]; exact h21, A2, M2, q1, q2, q3, by rw [ea]; exact q4⟩
    · refine lg_start G l bs b n k v5 v6 S S9 Z Y A M Z (pm_y S (Y.1 30000) 0) 2 (by decide) (nI i) (nI m) e1 e2 h31 hj hV0 1 6 _ (by decide) (by omega) (by omega) _ (f2_start G l hl bs _ _ _ _ S k7 (t2_X6_start G l hl bs Z Y S i m S hx hI.1 (by omega) (by omega) (by omega))) (fun r S1 h => ?_) _ (fun S1 h1 => r2_X7_start G l bs A S1 M _ Z 0 i m S1 h1 hr hI (by omega) (by omega) (by omega)) (fun S1 a S2 h => ?_) h50 hN
      · obtain ⟨rfl, rfl⟩ := h
        exact ⟨rfl, zB.w (Z := Z) hx yLe.rf hI.1 hm h50 hA ko no⟩
      · exact ⟨fun h => absurd h (by decide), h21, h⟩
  · refine lg_start G l bs b n k v5 v6 S S9 Z Y A M Z (pm_y S (Y.1 30000) 0) 1 (by decide) (pm_x S9 b (6 * n + 1)) (pm_x S9 b (6 * n + 2)) rfl rfl h31 hj hV0 1 6 _ (by decide) (by omega) (by omega) _ (f_start G l hl bs _ _ _ _ S k7 (t_X6_start G l hl bs Z Y S (pm_x S9 b (6 * n + 1)) (pm_x S9 b (6 * n + 2)) S hx hI.1 hv)) (fun r S1 h => ?_) _ (fun S1 h1 => r_X7_start G l bs A S1 M _ Z 0 (pm_x S9 b (6 * n + 1)) (pm_x S9 b (6 * n + 2)) S1 h1 hr hI hv) (fun S1 a S2 h => ?_) h50 hN
    · obtain ⟨rfl, rfl⟩ := h
      exact ⟨rfl, zB.w (Z := Z) hx yLe.rf hI.1 hm h50 hA ko no⟩
    · exact ⟨fun h => absurd h (by decide), h21, h⟩
theorem lo_send (G : pm_G) (l : Launch) (hl : l.stackTraces = false) (bs b n k : Nat) (v5 v6 : Value) (S S9 : pm_S) (Z : az) (Y : pm_Y) (h31 : pm_n S9 b < 2 ^ 31) (hn : n ≤ 512) (hj : 6 * n + 6 ≤ pm_n S9 b) (hJ : zJ n Z S Y) (hN : lw_N G l bs b S9 n k Y) : lw_W G l bs (lw_C Z (k + 1)) (lw_K Z (k + 1)) b S9 248 (lw_L b (Y.1 0) (Y.1 20000) (Y.1 30000) (6 * n) v5 v6) [] S := by
  have hV0 := zV.same hJ
  obtain ⟨hx, ⟨A, M, hm, hr, h50, hA⟩, h21, hI, hO, hb, ko, no⟩ := id hJ
  have hu := hI.u
  have hn60 := hI.1
  have k7 : pm_k S (Y.1 0) = 7 := hx.1.2.2.1.1.1
  by_cases hv : 1 ≤ pm_x S9 b (6 * n + 1) ∧ pm_x S9 b (6 * n + 1) ≤ nI (az_a Z 0)
  · obtain ⟨u1, u2⟩ := hv
    obtain ⟨q, hq, e1⟩ := i32_of1 (m := az_a Z 0) (by omega) u1 u2
    have hVF := zV.comes (w := [0, pm_x S9 b (6 * n + 2)]) hJ hq (tW.num _)
    have hu2 := hVF.1.u
    have hu3 := hVF.2.2.2
    refine lg_send G l bs b n k v5 v6 S S9 Z Y A M (zComes Z q [0, pm_x S9 b (6 * n + 2)]) (if (if az_b Z 1 q ≠ 2 ∧ az_b Z 9 q < 40 then (1 : Int32) else 0) = 0 then 0 else 1) 0 (by decide) (nI (q + 1)) (pm_x S9 b (6 * n + 2)) e1 rfl h31 hj hVF _ _ _ (by decide) (by omega) (by omega) _ (k_send G l hl bs _ _ _ _ S k7 _ _ _ _ (by decide) (fun a S2 h => by obtain ⟨-, Y2, hy, hx2⟩ := h; exact zB.o (Z := Z) hx2 hy ko no) (c_X6_send G l bs Z Y S 0 q (pm_x S9 b (6 * n + 2)) S hx hI hq)) (fun r S1 h => ?_) _ (fun S1 h1 => c_X7_send G l bs A S1 M _ Z 0 q (pm_x S9 b (6 * n + 2)) S1 h1 hr hI hq) (fun S1 a S2 h => ?_) h50 hN
    · obtain ⟨rfl, a, S2, ⟨rfl, Y2, hy, hx2⟩, rfl⟩ := h
      exact ⟨rfl, zB.of (Z := Z) hx2 hy hVF.1.1 hm h50 hA ko no⟩
    · obtain ⟨rfl, A2, M2, q1, q2, q3, q4⟩ := h
      have ea : az_a (zComes Z q [0, pm_x S9 b (6 * n + 2)]) 2 = az_a Z 2 := zComes_a _ _ _ _ (by decide) (by decide)
      exact ⟨fun _ => rfl, by rw [zComes_a _ _ _ _ (by decide) (by decide), zComes_a _ _ _ _ (by decide) (by decide)]; exact h21, A2, M2, q1, q2, q3, by rw [ea]; exact q4⟩
  · refine lg_send G l bs b n k v5 v6 S S9 Z Y A M Z (pm_y S (Y.1 30000) 0) 1 (by decide) (pm_x S9 b (6 * n + 1)) (pm_x S9 b (6 * n + 2)) rfl rfl h31 hj hV0 1 6 _ (by decide) (by omega) (by omega) _ (f_send G l hl bs _ _ _ _ S k7 (t_X6_send G l hl bs Z Y S (pm_x S9 b (6 * n + 1)) (pm_x S9 b (6 * n + 2)) S hx hI.1 hv)) (fun r S1 h => ?_) _ (fun S1 h1 => r_X7_send G l bs A S1 M _ Z 0 (pm_x S9 b (6 * n + 1)) (pm_x S9 b (6 * n + 2)) S1 h1 hr hI hv) (fun S1 a S2 h => ?_) h50 hN
    · obtain ⟨rfl, rfl⟩ := h
      exact ⟨rfl, zB.w (Z := Z) hx yLe.rf hI.1 hm h50 hA ko no⟩
    · exact ⟨fun h => absurd h (by decide), h21, h⟩
theorem lo_run (G : pm_G) (l : Launch) (hl : l.stackTraces = false) (bs b n k : Nat) (v5 v6 : Value) (S S9 : pm_S) (Z : az) (Y : pm_Y) (h31 : pm_n S9 b < 2 ^ 31) (hn : n ≤ 512) (hj : 6 * n + 6 ≤ pm_n S9 b) (hJ : zJ n Z S Y) (hN : lw_N G l bs b S9 n k Y) : lw_W G l bs (lw_C Z (k + 1)) (lw_K Z (k + 1)) b S9 323 (lw_L b (Y.1 0) (Y.1 20000) (Y.1 30000) (6 * n) v5 v6) [] S := by
  have hV0 := zV.same hJ
  obtain ⟨hx, ⟨A, M, hm, hr, h50, hA⟩, h21, hI, hO, hb, ko, no⟩ := id hJ
  have hu := hI.u
  have hn60 := hI.1
  have k7 : pm_k S (Y.1 0) = 7 := hx.1.2.2.1.1.1
  by_cases hv : 0 ≤ pm_x S9 b (6 * n + 1) ∧ pm_x S9 b (6 * n + 1) ≤ 60
  · obtain ⟨u1, u2⟩ := hv
    obtain ⟨m, hm60, e1⟩ := i32_of (m := 60) (by decide) u1 u2
    have hVF := zV.run (k := m) hJ hn hm60
    have hu2 := hVF.1.u
    have hu3 := hVF.2.2.2
    refine lg_run G l bs b n k v5 v6 S S9 Z Y A M ((zRun m Z).2) (nI (zRun m Z).1).toInt64 0 (by decide) (nI m) e1 h31 hj hVF _ _ _ (by decide) (by omega) (by omega) _ (k_run G l hl bs _ _ _ S k7 _ _ _ _ (by decide) (fun a S2 h => by obtain ⟨-, Y2, hy, hx2⟩ := h; exact zB.o (Z := Z) hx2 hy ko no) (c_X6_run G l bs Z Y S 0 m _ _ S hx hI hO hm60 (by omega) (by omega) rfl rfl)) (fun r S1 h => ?_) _ (fun S1 h1 => c_X7_run G l bs A S1 M _ Z 0 m _ _ S1 h1 hr hI rfl h21 hO hm60 (by omega) (by omega) rfl rfl) (fun S1 a S2 h => ?_) h50 hN
    · obtain ⟨rfl, a, S2, ⟨rfl, Y2, hy, hx2⟩, rfl⟩ := h
      exact ⟨rfl, zB.of (Z := Z) hx2 hy hVF.1.1 hm h50 hA ko no⟩
    · obtain ⟨rfl, A2, M2, q1, q2, q3, q4, q5⟩ := h
      exact ⟨fun _ => rfl, q5, A2, M2, q1, q2, q3, q4⟩
  · refine lg_run G l bs b n k v5 v6 S S9 Z Y A M Z (pm_y S (Y.1 30000) 0) 1 (by decide) (pm_x S9 b (6 * n + 1)) rfl h31 hj hV0 1 6 _ (by decide) (by omega) (by omega) _ (f_run G l hl bs _ _ _ S k7 (t_X6_run G l hl bs Z Y S (pm_x S9 b (6 * n + 1)) S hx hI.1 hv)) (fun r S1 h => ?_) _ (fun S1 h1 => r_X7_run G l bs A S1 M _ Z 0 (pm_x S9 b (6 * n + 1)) S1 h1 hr hI hv) (fun S1 a S2 h => ?_) h50 hN
    · obtain ⟨rfl, rfl⟩ := h
      exact ⟨rfl, zB.w (Z := Z) hx yLe.rf hI.1 hm h50 hA ko no⟩
    · exact ⟨fun h => absurd h (by decide), h21, h⟩
theorem lo_pass (G : pm_G) (l : Launch) (hl : l.stackTraces = false) (bs b n k : Nat) (v5 v6 : Value) (S S9 : pm_S) (Z : az) (Y : pm_Y) (h31 : pm_n S9 b < 2 ^ 31) (hn : n ≤ 512) (hj : 6 * n + 6 ≤ pm_n S9 b) (hJ : zJ n Z S Y) (hN : lw_N G l bs b S9 n k Y) : lw_W G l bs (lw_C Z (k + 1)) (lw_K Z (k + 1)) b S9 379 (lw_L b (Y.1 0) (Y.1 20000) (Y.1 30000) (6 * n) v5 v6) [] S := by
  have hV0 := zV.same hJ
  obtain ⟨hx, ⟨A, M, hm, hr, h50, hA⟩, h21, hI, hO, hb, ko, no⟩ := id hJ
  have hu := hI.u
  have hn60 := hI.1
  have k7 : pm_k S (Y.1 0) = 7 := hx.1.2.2.1.1.1
  by_cases hv : 0 ≤ pm_x S9 b (6 * n + 1) ∧ pm_x S9 b (6 * n + 1) ≤ 10000
  · obtain ⟨u1, u2⟩ := hv
    obtain ⟨m, hm4, e1⟩ := i32_of (m := 10000) (by decide) u1 u2
    have hVF := zV.pass (k := az_a Z 0) (m := m) hJ hn hm4
    have hu2 := hVF.1.u
    have hu3 := hVF.2.2.2
    refine lg_pass G l bs b n k v5 v6 S S9 Z Y A M ((zPass (az_a Z 0) (zs_a Z 6 (az_a Z 6 + m))).2) (nI (zPass (az_a Z 0) (zs_a Z 6 (az_a Z 6 + m))).1).toInt64 0 (by decide) (nI m) e1 h31 hj hVF _ _ _ (by decide) (by omega) (by omega) _ (k_pass G l hl bs _ _ _ S k7 _ _ _ _ (by decide) (fun a S2 h => zB.o (Z := Z) h.2 yLe.rf ko no) (c_X6_pass G l bs Z Y S 0 m _ _ S hx hI hm4 (by omega) rfl rfl)) (fun r S1 h => ?_) _ (fun S1 h1 => c_X7_pass G l bs A S1 M _ Z 0 m _ _ S1 h1 hr hI hm4 (by omega) rfl rfl) (fun S1 a S2 h => ?_) h50 hN
    · obtain ⟨rfl, a, S2, ⟨rfl, hx2⟩, rfl⟩ := h
      exact ⟨rfl, zB.of (Z := Z) hx2 yLe.rf hVF.1.1 hm h50 hA ko no⟩
    · obtain ⟨rfl, A2, M2, q1, q2, q3, q4⟩ := h
      have ea : az_a ((zPass (az_a Z 0) (zs_a Z 6 (az_a Z 6 + m))).2) 2 = az_a Z 2 := zPass_a (by decide) _ _
      exact ⟨fun _ => rfl, by rw [zPass_a (by decide), zPass_a (by decide)]; exact h21, A2, M2, q1, q2, q3, by rw [ea]; exact q4⟩
  · refine lg_pass G l bs b n k v5 v6 S S9 Z Y A M Z (pm_y S (Y.1 30000) 0) 1 (by decide) (pm_x S9 b (6 * n + 1)) rfl h31 hj hV0 1 6 _ (by decide) (by omega) (by omega) _ (f_pass G l hl bs _ _ _ S k7 (t_X6_pass G l hl bs Z Y S (pm_x S9 b (6 * n + 1)) S hx hI.1 hv)) (fun r S1 h => ?_) _ (fun S1 h1 => r_X7_pass G l bs A S1 M _ Z 0 (pm_x S9 b (6 * n + 1)) S1 h1 hr hI hv) (fun S1 a S2 h => ?_) h50 hN
    · obtain ⟨rfl, rfl⟩ := h
      exact ⟨rfl, zB.w (Z := Z) hx yLe.rf hI.1 hm h50 hA ko no⟩
    · exact ⟨fun h => absurd h (by decide), h21, h⟩
theorem lo_process (G : pm_G) (l : Launch) (hl : l.stackTraces = false) (bs b n k : Nat) (v5 v6 : Value) (S S9 : pm_S) (Z : az) (Y : pm_Y) (h31 : pm_n S9 b < 2 ^ 31) (hn : n ≤ 512) (hj : 6 * n + 6 ≤ pm_n S9 b) (hJ : zJ n Z S Y) (hN : lw_N G l bs b S9 n k Y) : lw_W G l bs (lw_C Z (k + 1)) (lw_K Z (k + 1)) b S9 460 (lw_L b (Y.1 0) (Y.1 20000) (Y.1 30000) (6 * n) v5 v6) [] S := by
  have hV0 := zV.same hJ
  obtain ⟨hx, ⟨A, M, hm, hr, h50, hA⟩, h21, hI, hO, hb, ko, no⟩ := id hJ
  have hu := hI.u
  have hn60 := hI.1
  have k7 : pm_k S (Y.1 0) = 7 := hx.1.2.2.1.1.1
  by_cases hv : (1 ≤ pm_x S9 b (6 * n + 1) ∧ pm_x S9 b (6 * n + 1) ≤ nI (az_a Z 0)) ∧ (0 ≤ pm_x S9 b (6 * n + 2) ∧ pm_x S9 b (6 * n + 2) ≤ 10)
  · obtain ⟨⟨u1, u2⟩, u3, u4⟩ := hv
    obtain ⟨q, hq, e1⟩ := i32_of1 (m := az_a Z 0) (by omega) u1 u2
    obtain ⟨j, hj10, e2⟩ := i32_of (m := 10) (by decide) u3 u4
    have hVF := hV0
    have hu2 := hVF.1.u
    have hu3 := hVF.2.2.2
    refine lg_process G l bs b n k v5 v6 S S9 Z Y A M (Z) (zFact Z q j).toInt64 0 (by decide) (nI (q + 1)) (nI j) e1 e2 h31 hj hVF _ _ _ (by decide) (by omega) (by omega) _ (k_process G l hl bs _ _ _ _ S k7 _ _ _ _ (by decide) (fun a S2 h => by rw [h.2]; exact ⟨ko, no⟩) (c_X6_process G l bs Z Y S 0 q j S hx hI hq (by omega))) (fun r S1 h => ?_) _ (fun S1 h1 => c_X7_process G l bs A S1 M _ Z 0 q j S1 h1 hr hI hq (by omega)) (fun S1 a S2 h => ?_) h50 hN
    · obtain ⟨rfl, a, S2, ⟨rfl, rfl⟩, rfl⟩ := h
      exact ⟨rfl, zB.of (Z := Z) hx yLe.rf hVF.1.1 hm h50 hA ko no⟩
    · obtain ⟨rfl, A2, M2, q1, q2, q3, q4⟩ := h
      have ea : az_a (Z) 2 = az_a Z 2 := rfl
      exact ⟨fun _ => rfl, h21, A2, M2, q1, q2, q3, by rw [ea]; exact q4⟩
  · refine lg_process G l bs b n k v5 v6 S S9 Z Y A M Z (pm_y S (Y.1 30000) 0) 1 (by decide) (pm_x S9 b (6 * n + 1)) (pm_x S9 b (6 * n + 2)) rfl rfl h31 hj hV0 1 6 _ (by decide) (by omega) (by omega) _ (f_process G l hl bs _ _ _ _ S k7 (t_X6_process G l hl bs Z Y S (pm_x S9 b (6 * n + 1)) (pm_x S9 b (6 * n + 2)) S hx hI.1 hv)) (fun r S1 h => ?_) _ (fun S1 h1 => r_X7_process G l bs A S1 M _ Z 0 (pm_x S9 b (6 * n + 1)) (pm_x S9 b (6 * n + 2)) S1 h1 hr hI hv) (fun S1 a S2 h => ?_) h50 hN
    · obtain ⟨rfl, rfl⟩ := h
      exact ⟨rfl, zB.w (Z := Z) hx yLe.rf hI.1 hm h50 hA ko no⟩
    · exact ⟨fun h => absurd h (by decide), h21, h⟩
theorem lo_register (G : pm_G) (l : Launch) (hl : l.stackTraces = false) (bs b n k : Nat) (v5 v6 : Value) (S S9 : pm_S) (Z : az) (Y : pm_Y) (h31 : pm_n S9 b < 2 ^ 31) (hn : n ≤ 512) (hj : 6 * n + 6 ≤ pm_n S9 b) (hJ : zJ n Z S Y) (hN : lw_N G l bs b S9 n k Y) : lw_W G l bs (lw_C Z (k + 1)) (lw_K Z (k + 1)) b S9 528 (lw_L b (Y.1 0) (Y.1 20000) (Y.1 30000) (6 * n) v5 v6) [] S := by
  have hV0 := zV.same hJ
  obtain ⟨hx, ⟨A, M, hm, hr, h50, hA⟩, h21, hI, hO, hb, ko, no⟩ := id hJ
  have hu := hI.u
  have hn60 := hI.1
  have k7 : pm_k S (Y.1 0) = 7 := hx.1.2.2.1.1.1
  by_cases hv : (1 ≤ pm_x S9 b (6 * n + 1) ∧ pm_x S9 b (6 * n + 1) ≤ nI (az_a Z 0)) ∧ (0 ≤ pm_x S9 b (6 * n + 2) ∧ pm_x S9 b (6 * n + 2) ≤ 8)
  · obtain ⟨⟨u1, u2⟩, u3, u4⟩ := hv
    obtain ⟨q, hq, e1⟩ := i32_of1 (m := az_a Z 0) (by omega) u1 u2
    obtain ⟨j, hj8, e2⟩ := i32_of (m := 8) (by decide) u3 u4
    have hVF := hV0
    have hu2 := hVF.1.u
    have hu3 := hVF.2.2.2
    refine lg_register G l bs b n k v5 v6 S S9 Z Y A M (Z) (zReg Z q j (pm_x S9 b (6 * n + 3))).toInt64 0 (by decide) (nI (q + 1)) (nI j) (pm_x S9 b (6 * n + 3)) e1 e2 rfl h31 hj hVF _ _ _ (by decide) (by omega) (by omega) _ (k_register G l hl bs _ _ _ _ _ S k7 _ _ _ _ (by decide) (fun a S2 h => by rw [h.2]; exact ⟨ko, no⟩) (c_X6_register G l bs Z Y S 0 q j (pm_x S9 b (6 * n + 3)) S hx hI hq (by omega))) (fun r S1 h => ?_) _ (fun S1 h1 => c_X7_register G l bs A S1 M _ Z 0 q j (pm_x S9 b (6 * n + 3)) S1 h1 hr hI hq (by omega)) (fun S1 a S2 h => ?_) h50 hN
    · obtain ⟨rfl, a, S2, ⟨rfl, rfl⟩, rfl⟩ := h
      exact ⟨rfl, zB.of (Z := Z) hx yLe.rf hVF.1.1 hm h50 hA ko no⟩
    · obtain ⟨rfl, A2, M2, q1, q2, q3, q4⟩ := h
      have ea : az_a (Z) 2 = az_a Z 2 := rfl
      exact ⟨fun _ => rfl, h21, A2, M2, q1, q2, q3, by rw [ea]; exact q4⟩
  · refine lg_register G l bs b n k v5 v6 S S9 Z Y A M Z (pm_y S (Y.1 30000) 0) 1 (by decide) (pm_x S9 b (6 * n + 1)) (pm_x S9 b (6 * n + 2)) (pm_x S9 b (6 * n + 3)) rfl rfl rfl h31 hj hV0 1 6 _ (by decide) (by omega) (by omega) _ (f_register G l hl bs _ _ _ _ _ S k7 (t_X6_register G l hl bs Z Y S (pm_x S9 b (6 * n + 1)) (pm_x S9 b (6 * n + 2)) (pm_x S9 b (6 * n + 3)) S hx hI.1 hv)) (fun r S1 h => ?_) _ (fun S1 h1 => r_X7_register G l bs A S1 M _ Z 0 (pm_x S9 b (6 * n + 1)) (pm_x S9 b (6 * n + 2)) (pm_x S9 b (6 * n + 3)) S1 h1 hr hI hv) (fun S1 a S2 h => ?_) h50 hN
    · obtain ⟨rfl, rfl⟩ := h
      exact ⟨rfl, zB.w (Z := Z) hx yLe.rf hI.1 hm h50 hA ko no⟩
    · exact ⟨fun h => absurd h (by decide), h21, h⟩
theorem lo_message (G : pm_G) (l : Launch) (hl : l.stackTraces = false) (bs b n k : Nat) (v5 v6 : Value) (S S9 : pm_S) (Z : az) (Y : pm_Y) (h31 : pm_n S9 b < 2 ^ 31) (hn : n ≤ 512) (hj : 6 * n + 6 ≤ pm_n S9 b) (hJ : zJ n Z S Y) (hN : lw_N G l bs b S9 n k Y) : lw_W G l bs (lw_C Z (k + 1)) (lw_K Z (k + 1)) b S9 608 (lw_L b (Y.1 0) (Y.1 20000) (Y.1 30000) (6 * n) v5 v6) [] S := by
  have hV0 := zV.same hJ
  obtain ⟨hx, ⟨A, M, hm, hr, h50, hA⟩, h21, hI, hO, hb, ko, no⟩ := id hJ
  have hu := hI.u
  have hn60 := hI.1
  have k7 : pm_k S (Y.1 0) = 7 := hx.1.2.2.1.1.1
  by_cases hv : 1 ≤ pm_x S9 b (6 * n + 1) ∧ pm_x S9 b (6 * n + 1) ≤ nI (az_a Z 0)
  · obtain ⟨u1, u2⟩ := hv
    obtain ⟨q, hq, e1⟩ := i32_of1 (m := az_a Z 0) (by omega) u1 u2
    have hVF := hV0
    have hu2 := hVF.1.u
    have hu3 := hVF.2.2.2
    refine lg_message G l bs b n k v5 v6 S S9 Z Y A M (Z) (zMsg Z q (pm_x S9 b (6 * n + 2)) (pm_x S9 b (6 * n + 3))).toInt64 0 (by decide) (nI (q + 1)) (pm_x S9 b (6 * n + 2)) (pm_x S9 b (6 * n + 3)) e1 rfl rfl h31 hj hVF _ _ _ (by decide) (by omega) (by omega) _ (k_message G l hl bs _ _ _ _ _ S k7 _ _ _ _ (by decide) (fun a S2 h => by rw [h.2]; exact ⟨ko, no⟩) (c_X6_message G l bs Z Y S 0 q (pm_x S9 b (6 * n + 2)) (pm_x S9 b (6 * n + 3)) S hx hI hq)) (fun r S1 h => ?_) _ (fun S1 h1 => c_X7_message G l bs A S1 M _ Z 0 q (pm_x S9 b (6 * n + 2)) (pm_x S9 b (6 * n + 3)) S1 h1 hr hI hq) (fun S1 a S2 h => ?_) h50 hN
    · obtain ⟨rfl, a, S2, ⟨rfl, rfl⟩, rfl⟩ := h
      exact ⟨rfl, zB.of (Z := Z) hx yLe.rf hVF.1.1 hm h50 hA ko no⟩
    · obtain ⟨rfl, A2, M2, q1, q2, q3, q4⟩ := h
      have ea : az_a (Z) 2 = az_a Z 2 := rfl
      exact ⟨fun _ => rfl, h21, A2, M2, q1, q2, q3, by rw [ea]; exact q4⟩
  · refine lg_message G l bs b n k v5 v6 S S9 Z Y A M Z (pm_y S (Y.1 30000) 0) 1 (by decide) (pm_x S9 b (6 * n + 1)) (pm_x S9 b (6 * n + 2)) (pm_x S9 b (6 * n + 3)) rfl rfl rfl h31 hj hV0 1 6 _ (by decide) (by omega) (by omega) _ (f_message G l hl bs _ _ _ _ _ S k7 (t_X6_message G l hl bs Z Y S (pm_x S9 b (6 * n + 1)) (pm_x S9 b (6 * n + 2)) (pm_x S9 b (6 * n + 3)) S hx hI.1 hv)) (fun r S1 h => ?_) _ (fun S1 h1 => r_X7_message G l bs A S1 M _ Z 0 (pm_x S9 b (6 * n + 1)) (pm_x S9 b (6 * n + 2)) (pm_x S9 b (6 * n + 3)) S1 h1 hr hI hv) (fun S1 a S2 h => ?_) h50 hN
    · obtain ⟨rfl, rfl⟩ := h
      exact ⟨rfl, zB.w (Z := Z) hx yLe.rf hI.1 hm h50 hA ko no⟩
    · exact ⟨fun h => absurd h (by decide), h21, h⟩
theorem lo_total (G : pm_G) (l : Launch) (hl : l.stackTraces = false) (bs b n k : Nat) (v5 v6 : Value) (S S9 : pm_S) (Z : az) (Y : pm_Y) (h31 : pm_n S9 b < 2 ^ 31) (hn : n ≤ 512) (hj : 6 * n + 6 ≤ pm_n S9 b) (hJ : zJ n Z S Y) (hN : lw_N G l bs b S9 n k Y) : lw_W G l bs (lw_C Z (k + 1)) (lw_K Z (k + 1)) b S9 688 (lw_L b (Y.1 0) (Y.1 20000) (Y.1 30000) (6 * n) v5 v6) [] S := by
  have hV0 := zV.same hJ
  obtain ⟨hx, ⟨A, M, hm, hr, h50, hA⟩, h21, hI, hO, hb, ko, no⟩ := id hJ
  have hu := hI.u
  have hn60 := hI.1
  have k7 : pm_k S (Y.1 0) = 7 := hx.1.2.2.1.1.1
  by_cases hv : 0 ≤ pm_x S9 b (6 * n + 1) ∧ pm_x S9 b (6 * n + 1) ≤ 8
  · obtain ⟨u1, u2⟩ := hv
    obtain ⟨j, hj8, e1⟩ := i32_of (m := 8) (by decide) u1 u2
    have hVF := hV0
    have hu2 := hVF.1.u
    have hu3 := hVF.2.2.2
    refine lg_total G l bs b n k v5 v6 S S9 Z Y A M (Z) (zTot Z j).toInt64 0 (by decide) (nI j) e1 h31 hj hVF _ _ _ (by decide) (by omega) (by omega) _ (k_total G l hl bs _ _ _ S k7 _ _ _ _ (by decide) (fun a S2 h => by rw [h.2]; exact ⟨ko, no⟩) (c_X6_total G l bs Z Y S 0 j S hx hI (by omega))) (fun r S1 h => ?_) _ (fun S1 h1 => c_X7_total G l bs A S1 M _ Z 0 j S1 h1 hr hI (by omega)) (fun S1 a S2 h => ?_) h50 hN
    · obtain ⟨rfl, a, S2, ⟨rfl, rfl⟩, rfl⟩ := h
      exact ⟨rfl, zB.of (Z := Z) hx yLe.rf hVF.1.1 hm h50 hA ko no⟩
    · obtain ⟨rfl, A2, M2, q1, q2, q3, q4⟩ := h
      have ea : az_a (Z) 2 = az_a Z 2 := rfl
      exact ⟨fun _ => rfl, h21, A2, M2, q1, q2, q3, by rw [ea]; exact q4⟩
  · refine lg_total G l bs b n k v5 v6 S S9 Z Y A M Z (pm_y S (Y.1 30000) 0) 1 (by decide) (pm_x S9 b (6 * n + 1)) rfl h31 hj hV0 1 6 _ (by decide) (by omega) (by omega) _ (f_total G l hl bs _ _ _ S k7 (t_X6_total G l hl bs Z Y S (pm_x S9 b (6 * n + 1)) S hx hI.1 hv)) (fun r S1 h => ?_) _ (fun S1 h1 => r_X7_total G l bs A S1 M _ Z 0 (pm_x S9 b (6 * n + 1)) S1 h1 hr hI hv) (fun S1 a S2 h => ?_) h50 hN
    · obtain ⟨rfl, rfl⟩ := h
      exact ⟨rfl, zB.w (Z := Z) hx yLe.rf hI.1 hm h50 hA ko no⟩
    · exact ⟨fun h => absurd h (by decide), h21, h⟩
theorem lo_out (G : pm_G) (l : Launch) (bs b n k : Nat) (v5 v6 : Value) (S S9 : pm_S) (Z : az) (Y : pm_Y) (h31 : pm_n S9 b < 2 ^ 31) (hj : 6 * n + 6 ≤ pm_n S9 b) (hJ : zJ n Z S Y) (hN : lw_N G l bs b S9 n k Y) : lw_W G l bs (lw_C Z (k + 1)) (lw_K Z (k + 1)) b S9 435 (lw_L b (Y.1 0) (Y.1 20000) (Y.1 30000) (6 * n) v5 v6) [] S := by
  have hV0 := zV.same hJ
  obtain ⟨hx, ⟨A, M, hm, hr, h50, hA⟩, h21, hI, hO, hb, ko, no⟩ := id hJ
  have h9 := hI.2.2.2.2.2.2.2.2.2.2.1.2
  have h59 := hI.2.2.2.2.2.2.2.2.2.2.2.2.1
  refine g_out G l bs b (Y.1 0) (Y.1 20000) (Y.1 30000) (6 * n) v5 v6 S S9 _ _ h31 hj _ (fun S2 => zD Z A 0 S S2) hx.1.2.2.1.1.1 (by rw [← h50]; exact hm.1) (c_X6_out G l bs Z Y S _ S hx.1 hI.1 (by omega)) ?_ (fun S2 w5 w6 h2 => ?_)
  · rw [← h50]
    have h := c_X7_out G l bs A S M _ Z 0 (pm_x S9 b (6 * n + 1)) S hm hr hI
    have e : (fun (x : Int32) (S2 : pm_S) => x = (if 0 ≤ pm_x S9 b (6 * n + 1) ∧ (pm_x S9 b (6 * n + 1)).toInt < min (az_a Z 9) 600 then az_x Z 1 (pm_x S9 b (6 * n + 1)).toInt.toNat else -1) ∧ ∃ A2 M2, (∀ i, i ≠ 60 → A2 i = A i) ∧ A2 60 = 0 ∧ pm_MX M2 S2 A2 S ∧ mR (az_a Z 2) Z M2) = (fun (x : Int32) (S2 : pm_S) => x = (if 0 ≤ pm_x S9 b (6 * n + 1) ∧ (pm_x S9 b (6 * n + 1)).toInt < min (az_a Z 9) 600 then az_x Z 1 (pm_x S9 b (6 * n + 1)).toInt.toNat else -1) ∧ zD Z A 0 S S2) := by
      funext x S2
      unfold zD
      exact propext ⟨fun ⟨u, v⟩ => ⟨u, h21, v⟩, fun ⟨u, _, v⟩ => ⟨u, v⟩⟩
    rw [e] at h
    exact h
  · obtain ⟨-, Y2, e0, e2, e3, hj2⟩ := (zB.w (Z := Z) hx yLe.rf hI.1 hm h50 hA ko no).nx hV0 h2
    exact (hN Z S2 Y2 w5 w6 hj2 e0 e2 e3).more (by unfold lw_C; omega) (by unfold lw_K; omega)
