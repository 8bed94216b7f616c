/-! one call: the states -/
theorem e8_sy {S : pm_S} {a i b : Nat} {v : Int64} (h : b ≠ a) : pm_e8 S (pm_sy S a i v) b := ⟨rfl, rfl, fun _ => rfl, fun _ => rfl, fun _ => rfl, fun _ => rfl, fun g => by rw [pm_y_sy, if_neg (fun z => h z.1)], fun _ => rfl⟩
/-- between the class's call and the reference's -/
def zB (F : az) (Y : pm_Y) (A : Nat → Nat) (M : pm_N) (S1 : pm_S) (w : Int64) : Prop :=
  pm_MX M S1 A S1 ∧ pm_k S1 (Y.1 30000) = 11 ∧ pm_n S1 (Y.1 30000) = 1 ∧ pm_y S1 (Y.1 30000) 0 = w ∧ ∃ Y2, Y2.1 0 = Y.1 0 ∧ Y2.1 20000 = Y.1 20000 ∧ Y2.1 30000 = Y.1 30000 ∧ pm_CX F S1 Y2 S1 ∧ A 50 = Y2.1 20000 ∧ ∀ s, 0 < mlen s → A s = Y2.1 (20001 + mcd s)
/-- the state after a call, with n calls behind -/
def zV (n : Nat) (Z F : az) : Prop := zI 0 F ∧ zOps F ∧ (az_a F 4 ≤ 60 * (n + 1) ∧ az_a F 5 ≤ 720 * (n + 1) ∧ az_a F 6 ≤ 10000 * (n + 1)) ∧ zU Z ≤ zU F
/-- the reference has answered: t was thrown -/
def zD (F : az) (A : Nat → Nat) (t : Nat) (S1 S2 : pm_S) : Prop := az_a F 2 = az_a F 1 ∧ ∃ A2 M2, (∀ i, i ≠ 60 → A2 i = A i) ∧ A2 60 = t ∧ pm_MX M2 S2 A2 S1 ∧ mR (az_a F 2) F M2
theorem ml50 : ¬ 0 < mlen 50 := by decide
theorem ml60 {s : Nat} (h : 0 < mlen s) : s ≠ 60 := fun e => by rw [e] at h; exact absurd h (by decide)
theorem zB.o {Z F : az} {S S2 : pm_S} {Y Y2 : pm_Y} (hx : pm_CX F S2 Y2 S) (hy : yLe (az_a Z 0) Y Y2) (ko : pm_k S (Y.1 30000) = 11) (no : pm_n S (Y.1 30000) = 1) : pm_k S2 (Y.1 30000) = 11 ∧ pm_n S2 (Y.1 30000) = 1 := by
  have hE := hx.1.2.2.2.2.2.2.2.2.2.2.2.2.2.2 30000 (Or.inr rfl)
  rw [hy.1 30000 (lv_pc (Or.inr rfl))] at hE
  exact ⟨hE.1.trans ko, hE.2.1.trans no⟩
theorem zB.w {Z F : az} {S S2 : pm_S} {Y Y2 : pm_Y} {A : Nat → Nat} {M : pm_N} (hx : pm_CX F S2 Y2 S) (hy : yLe (az_a Z 0) Y Y2) (hn : az_a F 0 ≤ 60) (hm : pm_MX M S A S) (h50 : A 50 = Y.1 20000) (hA : ∀ s, 0 < mlen s → A s = Y.1 (20001 + mcd s)) (ko : pm_k S (Y.1 30000) = 11) (no : pm_n S (Y.1 30000) = 1) : zB F Y A M S2 (pm_y S2 (Y.1 30000) 0) := by
  have e0 := hy.1 0 (lv_c (by omega))
  have e2 := hy.1 20000 (lv_pc (Or.inl ⟨Nat.le_refl _, by omega⟩))
  have e3 := hy.1 30000 (lv_pc (Or.inr rfl))
  have h50' : A 50 = Y2.1 20000 := by rw [e2]; exact h50
  have hA' : ∀ s, 0 < mlen s → A s = Y2.1 (20001 + mcd s) := fun s hs => by
    have := mcd_lt hs
    rw [hy.1 (20001 + mcd s) (lv_pc (Or.inl ⟨by omega, by omega⟩))]; exact hA s hs
  obtain ⟨k1, k2⟩ := zB.o hx hy ko no
  refine ⟨hx.ref hm h50' hA', k1, k2, rfl, Y2, e0, e2, e3, hx.mvE hn (fun c _ _ => e8_rf) (fun c hc => hx.1.2.1 c (lv_pc hc)), h50', hA'⟩
theorem zB.of {Z F : az} {S S2 : pm_S} {Y Y2 : pm_Y} {A : Nat → Nat} {M : pm_N} {w : Int64} (hx : pm_CX F S2 Y2 S) (hy : yLe (az_a Z 0) Y Y2) (hn : az_a F 0 ≤ 60) (hm : pm_MX M S A S) (h50 : A 50 = Y.1 20000) (hA : ∀ s, 0 < mlen s → A s = Y.1 (20001 + mcd s)) (ko : pm_k S (Y.1 30000) = 11) (no : pm_n S (Y.1 30000) = 1) : zB F Y A M (pm_sy S2 (Y.1 30000) 0 w) w := by
  obtain ⟨b1, b2, b3, -, Y2', e0, e2, e3, b5, b6, b7⟩ := zB.w hx hy hn hm h50 hA ko no
  have inj := b5.1.1
  have ne : ∀ c, lv (az_a F 0) Y2'.2.1 c → c ≠ 30000 → Y2'.1 c ≠ Y.1 30000 := fun c hc h z => h (inj _ _ hc (lv_pc (Or.inr rfl)) (by rw [z, e3]))
  refine ⟨b1.mvE (e8_sy ?_) (fun s hs => e8_sy ?_), b2, b3, by rw [pm_y_sy, if_pos ⟨rfl, rfl⟩], Y2', e0, e2, e3, b5.mvE hn (fun c hc h => e8_sy (ne c hc (by omega))) (fun c hc => b5.1.2.1 c (lv_pc hc)), b6, b7⟩
  · rw [b6]; exact ne _ (lv_pc (Or.inl ⟨Nat.le_refl _, by omega⟩)) (by omega)
  · have := mcd_lt hs
    rw [b7 s hs]; exact ne _ (lv_pc (Or.inl ⟨by omega, by omega⟩)) (by omega)
theorem zB.nx {n t : Nat} {Z F : az} {S1 S2 : pm_S} {Y : pm_Y} {A : Nat → Nat} {M : pm_N} {w : Int64} (h : zB F Y A M S1 w) (hV : zV n Z F) (hD : zD F A t S1 S2) :
    (pm_k S2 (Y.1 30000) = 11 ∧ pm_n S2 (Y.1 30000) = 1 ∧ pm_y S2 (Y.1 30000) 0 = w) ∧ ∃ Y2, Y2.1 0 = Y.1 0 ∧ Y2.1 20000 = Y.1 20000 ∧ Y2.1 30000 = Y.1 30000 ∧ zJ (n + 1) F S2 Y2 := by
  obtain ⟨b1, b2, b3, b4, Y2, e0, e2, e3, b5, b6, b7⟩ := h
  obtain ⟨d1, A2, M2, d2, d3, d4, d5⟩ := hD
  have a50 : A2 50 = Y2.1 20000 := by rw [d2 50 (by decide)]; exact b6
  have aA : ∀ s, 0 < mlen s → A2 s = Y2.1 (20001 + mcd s) := fun s hs => by rw [d2 s (ml60 hs)]; exact b7 s hs
  obtain ⟨c1, c2, c3⟩ := pm_MX.cls b5 hV.1.1 d4 a50 aA
  have c3' := c3
  rw [e3] at c3
  refine ⟨⟨c3.1.trans b2, c3.2.1.trans b3, (c3.2.2.2.2.2.2.1 0).trans b4⟩, Y2, e0, e2, e3, c1, ⟨A2, M2, c2, d5, a50, aA⟩, d1, hV.1, hV.2.1, hV.2.2.1, ?_, ?_⟩
  · rw [c3'.1, e3]; exact b2
  · rw [c3'.2.1, e3]; exact b3
theorem zD.th {F : az} {A : Nat → Nat} {t : Nat} {S1 S2 : pm_S} (h : zD F A t S1 S2) (G : pm_G) (l : Launch) (bs : Nat) (r : Int32) (hr : r = nI t) : pm_k S2 (A 50) = 8 ∧ pm_M G l bs yX7_thrown cX7_thrown 1 (some .int) 0 0 0 [.ref (A 50)] S2 (pm_qi (fun t S3 => t = r ∧ S3 = S2)) := by
  obtain ⟨-, A2, M2, d2, d3, d4, -⟩ := h
  rw [← d2 50 (by decide)]
  refine ⟨d4.1, ?_⟩
  have e : r = M2.2 40 := by rw [hr, ← d3]; exact d4.2.2.2.2.2.2.symm
  rw [e]
  exact c_X7_thrown G l bs A2 S1 M2 S2 d4
theorem zUk_le {Z : az} : ∀ k, (∀ p, p < k → az_b Z 12 p ≤ 40) → zUk Z k ≤ 106 * k
  | 0, _ => Nat.le_refl _
  | k + 1, h => by
    have h1 := zUk_le k (fun p hp => h p (by omega))
    have h2 := h k (by omega)
    unfold zUk
    omega
theorem zI.u {s : Nat} {Z : az} (h : zI s Z) : zU Z ≤ 6360 := by
  have h1 := zUk_le (Z := Z) (az_a Z 0) (fun p hp => h.b hp 12)
  have h2 := h.1
  unfold zU
  omega
/-! the states that calls come to -/
theorem zV.same {n : Nat} {Z : az} {S : pm_S} {Y : pm_Y} (h : zJ n Z S Y) : zV n Z Z := by
  obtain ⟨-, -, -, hI, hO, ⟨b1, b2, b3⟩, -⟩ := h
  exact ⟨hI, hO, ⟨by omega, by omega, by omega⟩, Nat.le_refl _⟩
theorem zV.put {n k m : Nat} {a b c : Int32} {Z : az} {S : pm_S} {Y : pm_Y} (h : zJ n Z S Y) (hm : m < 37) : zV n Z (zPut Z k (nI m) a b c) := by
  obtain ⟨hI, hO, hb, hu⟩ := zV.same h
  refine ⟨hI, fun q hq => ?_, hb, Nat.le_of_eq (zU_eq (Z := Z) (W := zPut Z k (nI m) a b c) rfl (fun _ _ => rfl)).symm⟩
  unfold zPut
  rw [z_x_x, if_neg (by omega), z_x_x, if_neg (by omega), z_x_x, if_neg (by omega), z_x_x]
  by_cases e : q = k
  · rw [if_pos ⟨rfl, by rw [e]⟩]; exact ⟨m, by omega, rfl⟩
  · rw [if_neg (by omega)]; exact hO q hq
theorem zV.new {n a pr : Nat} {Z : az} {S : pm_S} {Y : pm_Y} (h : zJ n Z S Y) (hlt : az_a Z 0 < 60) (ha : a < 300) (hpr : pr < 3) : zV n Z (zNew Z a pr) := by
  obtain ⟨hI, hO, ⟨b1, b2, b3⟩, -⟩ := zV.same h
  have hl := zLf_new (Z := Z) (a := a) (pr := pr)
  refine ⟨hI.new hlt ha (by omega), hO.of rfl, ⟨?_, ?_, ?_⟩, hl.2.1⟩
  · rw [hl.2.2 4 (by omega)]; exact b1
  · rw [hl.2.2 5 (by omega)]; exact b2
  · rw [hl.2.2 6 (by omega)]; exact b3
theorem zV.comes {n q : Nat} {w : List Int32} {Z : az} {S : pm_S} {Y : pm_Y} (h : zJ n Z S Y) (hq : q < az_a Z 0) (hw : tW (az_a Z 0) w) : zV n Z (zComes Z q w) := by
  obtain ⟨hI, hO, ⟨b1, b2, b3⟩, -⟩ := zV.same h
  have hl := zLe_comes (Z := Z) (w := w) hq
  refine ⟨hI.comes hq hw, hO.of (by rw [zx_comes]), ⟨?_, ?_, ?_⟩, hl.2.1⟩
  · rw [hl.2.2 4 (by omega)]; exact b1
  · rw [hl.2.2 5 (by omega)]; exact b2
  · rw [hl.2.2 6 (by omega)]; exact b3
theorem zV.run {n k : Nat} {Z : az} {S : pm_S} {Y : pm_Y} (h : zJ n Z S Y) (hn : n ≤ 512) (hk : k ≤ 60) : zV n Z (zRun k Z).2 := by
  obtain ⟨-, -, -, hI, hO, ⟨b1, b2, b3⟩, -⟩ := h
  obtain ⟨r1, r2, r3, r4, r5, r6, -⟩ := hI.run k Z (by omega) (by omega)
  exact ⟨r1, hO.of (zx_run k Z), ⟨by omega, by omega, by omega⟩, r3⟩
theorem zV.pass {n k m : Nat} {Z : az} {S : pm_S} {Y : pm_Y} (h : zJ n Z S Y) (hn : n ≤ 512) (hm : m ≤ 10000) : zV n Z (zPass k (zs_a Z 6 (az_a Z 6 + m))).2 := by
  obtain ⟨-, -, -, hI, hO, ⟨b1, b2, b3⟩, -⟩ := h
  obtain ⟨r1, r2, -⟩ := (hI.a6 (n := m) (by omega)).pass k _
  have e6 : zU (zs_a Z 6 (az_a Z 6 + m)) = zU Z := zU_eq (by rw [z_a_a, if_neg (by decide)]) (fun _ _ => rfl)
  refine ⟨r1, hO.of (zx_pass k _), ⟨?_, ?_, ?_⟩, by rw [← e6]; exact r2.2.1⟩
  · rw [r2.2.2 4 (by omega), z_a_a, if_neg (by decide)]; omega
  · rw [r2.2.2 5 (by omega), z_a_a, if_neg (by decide)]; omega
  · rw [r2.2.2 6 (by omega), z_a_a, if_pos rfl]; omega
theorem zPass_a {i : Nat} (hi : i ≠ 3) : ∀ (k : Nat) (Z : az), az_a (zPass k Z).2 i = az_a Z i
  | 0, _ => rfl
  | k + 1, Z => by
    unfold zPass
    split
    · rfl
    · dsimp only
      rw [zPass_a hi k]
      unfold zReady zTurn
      rw [z_a_a, if_neg hi]; rfl
/-! the numbers of a script -/
theorem i32_of {x : Int32} {m : Nat} (hm : m < 2 ^ 31) (h0 : 0 ≤ x) (h1 : x ≤ nI m) : ∃ k, k ≤ m ∧ x = nI k := by
  have a0 := Int32.le_iff_toInt_le.mp h0
  have a1 := Int32.le_iff_toInt_le.mp h1
  rw [nI_toInt hm] at a1
  have z : (0 : Int32).toInt = 0 := by decide
  rw [z] at a0
  refine ⟨x.toInt.toNat, by omega, Int32.toInt_inj.mp ?_⟩
  rw [nI_toInt (by omega)]
  omega
theorem i32_of1 {x : Int32} {m : Nat} (hm : m < 2 ^ 31) (h0 : 1 ≤ x) (h1 : x ≤ nI m) : ∃ k, k < m ∧ x = nI (k + 1) := by
  have a0 := Int32.le_iff_toInt_le.mp h0
  have z : (1 : Int32).toInt = 1 := by decide
  rw [z] at a0
  obtain ⟨k, hk, e⟩ := i32_of hm (Int32.le_iff_toInt_le.mpr (by rw [show (0 : Int32).toInt = 0 by decide]; omega)) h1
  rw [e, nI_toInt (by omega)] at a0
  exact ⟨k - 1, by omega, by rw [e, show k - 1 + 1 = k by omega]⟩
