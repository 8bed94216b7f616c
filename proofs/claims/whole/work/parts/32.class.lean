/-! the class's objects over the abstract state. ad: addresses by codes; mk: of a process, how many rows its mailbox has made; pi: which row is at a place -/
def pq (p c : Nat) : Nat := 100 + 200 * p + c
abbrev pm_Y : Type := (Nat → Nat) × (Nat → Nat) × (Nat → Nat → Nat)
/-- the codes in use: below 15 the mill's own, then 200 a process, 20000 .. 20041 the reference's, 30000 the law's -/
def lv (n : Nat) (mk : Nat → Nat) (c : Nat) : Prop := c < 15 ∨ (∃ p d, p < n ∧ c = pq p d ∧ (d < 18 ∨ (20 ≤ d ∧ d < 28) ∨ (30 ≤ d ∧ d < 30 + mk p) ∨ (80 ≤ d ∧ d < 80 + mk p)) ∧ d < 120) ∨ (20000 ≤ c ∧ c < 20031) ∨ c = 30000
theorem lv_p {n : Nat} {mk : Nat → Nat} {p d : Nat} (hp : p < n) (hd : d < 18) : lv n mk (pq p d) := Or.inr (Or.inl ⟨p, d, hp, rfl, Or.inl hd, by omega⟩)
theorem lv_r {n : Nat} {mk : Nat → Nat} {p d : Nat} (hp : p < n) (hd : d < 8) : lv n mk (pq p (20 + d)) := Or.inr (Or.inl ⟨p, 20 + d, hp, rfl, Or.inr (Or.inl ⟨by omega, by omega⟩), by omega⟩)
theorem lv_m {n : Nat} {mk : Nat → Nat} {p d : Nat} (hp : p < n) (hd : d < mk p) (hk : mk p ≤ 40) : lv n mk (pq p (30 + d)) := Or.inr (Or.inl ⟨p, 30 + d, hp, rfl, Or.inr (Or.inr (Or.inl ⟨by omega, by omega⟩)), by omega⟩)
theorem lv_n {n : Nat} {mk : Nat → Nat} {p d : Nat} (hp : p < n) (hd : d < mk p) (hk : mk p ≤ 40) : lv n mk (pq p (80 + d)) := Or.inr (Or.inl ⟨p, 80 + d, hp, rfl, Or.inr (Or.inr (Or.inr ⟨by omega, by omega⟩)), by omega⟩)
theorem lv_c {n : Nat} {mk : Nat → Nat} {c : Nat} (h : c < 15) : lv n mk c := Or.inl h
theorem pq_inj {p q d e : Nat} (hd : d < 200) (he : e < 200) (h : pq p d = pq q e) : p = q ∧ d = e := by
  unfold pq at h
  omega
/-- the mill's own objects -/
def sC (S : pm_S) (ad : Nat → Nat) : Prop :=
  (pm_k S (ad 0) = 7 ∧ pm_p S 300 (ad 0) = some (ad 1) ∧ pm_p S 301 (ad 0) = some (ad 2) ∧ pm_p S 302 (ad 0) = some (ad 3) ∧ pm_p S 303 (ad 0) = some (ad 4) ∧ pm_p S 304 (ad 0) = some (ad 5) ∧ pm_p S 305 (ad 0) = some (ad 9) ∧ pm_p S 306 (ad 0) = some (ad 11) ∧ pm_p S 307 (ad 0) = some (ad 13)) ∧
  (pm_k S (ad 1) = 9 ∧ pm_n S (ad 1) = 1200) ∧ (pm_k S (ad 2) = 12 ∧ pm_n S (ad 2) = 60) ∧ (pm_k S (ad 3) = 12 ∧ pm_n S (ad 3) = 100) ∧ (pm_k S (ad 4) = 12 ∧ pm_n S (ad 4) = 60) ∧
  pm_wt S (ad 5) (ad 6) (ad 7) (ad 8) ∧ pm_sh S (ad 9) (ad 10) ∧ pm_to S (ad 11) (ad 12) ∧ pm_to S (ad 13) (ad 14)
/-- a process's objects -/
def sP (S : pm_S) (ad : Nat → Nat) (p : Nat) : Prop :=
  (pm_k S (ad (pq p 0)) = 2 ∧ pm_p S 52 (ad (pq p 0)) = some (ad (pq p 1)) ∧ pm_p S 53 (ad (pq p 0)) = some (ad (pq p 2)) ∧ pm_p S 54 (ad (pq p 0)) = some (ad (pq p 4)) ∧ pm_p S 55 (ad (pq p 0)) = some (ad (pq p 6)) ∧ pm_i S 50 (ad (pq p 0)) = nI (p + 1)) ∧
  (pm_k S (ad (pq p 1)) = 13 ∧ pm_n S (ad (pq p 1)) = 8 ∧ ∀ j, j < 8 → pm_z S (ad (pq p 1)) j = some (ad (pq p (10 + j)))) ∧
  pm_mb S (ad (pq p 4)) (ad (pq p 5)) ∧ pm_ts S (ad (pq p 6)) (ad (pq p 7)) (ad (pq p 8)) (ad (pq p 9))
/-- which number of the state an int field holds: of a process (object, number) .. -/
def tbB : Nat → Option (Nat × Nat)
  | 51 => some (0, 0) | 56 => some (0, 1) | 57 => some (0, 2) | 58 => some (0, 3) | 59 => some (0, 4) | 61 => some (0, 5) | 65 => some (0, 6) | 203 => some (6, 7) | 204 => some (6, 8) | 1 => some (4, 9) | 2 => some (4, 10) | 63 => some (0, 11)
  | _ => none
/-- .. of the whole -/
def tbA : Nat → Option (Nat × Nat)
  | 308 => some (0, 0) | 309 => some (0, 1) | 310 => some (0, 2) | 311 => some (0, 3) | 312 => some (0, 4) | 313 => some (0, 5) | 314 => some (0, 6) | 315 => some (0, 7) | 254 => some (5, 8) | 101 => some (9, 9)
  | _ => none
def zNm (r : Option Nat) : Int32 := match r with
  | some a => nI a
  | none => -1
def zDl (r : Option Nat) : Int64 := match r with
  | some u => lN u
  | none => 9223372036854775807
def vB (Z : az) (S : pm_S) (ad : Nat → Nat) : Prop := ∀ p, p < az_a Z 0 → ∀ f c i, tbB f = some (c, i) → pm_i S f (ad (pq p c)) = nI (az_b Z i p)
def vA (Z : az) (S : pm_S) (ad : Nat → Nat) : Prop := ∀ f c i, tbA f = some (c, i) → pm_i S f (ad c) = nI (az_a Z i)
def vN (Z : az) (S : pm_S) (ad : Nat → Nat) : Prop := (∀ p, p < az_a Z 0 → pm_i S 62 (ad (pq p 0)) = zNm (az_e Z 0 p)) ∧ ∀ a, a < 100 → pm_z S (ad 3) a = (az_e Z 2 a).map (fun p => ad (pq p 0))
def vJ (Z : az) (S : pm_S) (ad : Nat → Nat) : Prop := ∀ p, p < az_a Z 0 → pm_j S 60 (ad (pq p 0)) = zDl (az_e Z 1 p) ∧ ∀ i, i < 64 → pm_lb (pm_j S 64 (ad (pq p 0))) i = (decide (0 < i) && az_f Z p (i - 1))
def vX (Z : az) (S : pm_S) (ad : Nat → Nat) : Prop := (∀ i, i < 1200 → pm_x S (ad 1) i = az_x Z 0 i) ∧ (∀ i, i < 600 → i < az_a Z 9 → pm_x S (ad 10) i = az_x Z 1 i)
def vK (Z : az) (S : pm_S) (ad : Nat → Nat) : Prop := ∀ p, p < az_a Z 0 → (∀ i, i < az_b Z 7 p → pm_x S (ad (pq p 7)) i = nI (az_c Z 0 p i)) ∧ (∀ i, i < az_b Z 8 p → pm_x S (ad (pq p 8)) i = nI (az_c Z 1 p i)) ∧ ∀ i, i < az_b Z 8 p → pm_x S (ad (pq p 9)) i = nI (az_c Z 2 p i)
def vW (Z : az) (S : pm_S) (ad : Nat → Nat) : Prop := pm_i S 253 (ad 5) = nI (az_w Z).length ∧ pm_wa S (ad 6) (ad 7) (ad 8) ((az_w Z).map (fun t => (nI t.1, nI (t.2.1 + 1), nI (t.2.2 + 1))))
def vP (Z : az) (S : pm_S) (ad : Nat → Nat) : Prop := (∀ p, p < az_a Z 0 → pm_z S (ad 2) p = some (ad (pq p 0))) ∧ ∀ i, i < az_a Z 1 → pm_z S (ad 4) i = some (ad (pq (az_c Z 3 0 i) 0))
def vT (Z : az) (S : pm_S) (ad : Nat → Nat) : Prop := ∀ p, p < az_a Z 0 → (∀ j, j < 8 → pm_tm S (ad (pq p (10 + j))) (ad (pq p (20 + j))) (az_t Z 0 p j)) ∧ pm_tm S (ad (pq p 2)) (ad (pq p 3)) (az_t Z 1 p 0)
def vM (Z : az) (S : pm_S) (ad mk : Nat → Nat) (pi : Nat → Nat → Nat) : Prop := ∀ p, p < az_a Z 0 → az_b Z 9 p ≤ mk p ∧ mk p ≤ 40 ∧ (∀ k, k < 40 → pm_z S (ad (pq p 5)) k = if k < mk p then some (ad (pq p (30 + pi p k))) else none) ∧ (∀ k, k < mk p → pi p k < mk p ∧ ∃ w, pm_tm S (ad (pq p (30 + pi p k))) (ad (pq p (80 + pi p k))) w) ∧ (∀ k l, k < mk p → l < mk p → pi p k = pi p l → k = l) ∧ ∀ k, k < az_b Z 9 p → pm_tm S (ad (pq p (30 + pi p k))) (ad (pq p (80 + pi p k))) (az_t Z 2 p k)
/-- at the address a both memories hold the same -/
def pm_e8 (E S : pm_S) (a : Nat) : Prop := pm_k S a = pm_k E a ∧ pm_n S a = pm_n E a ∧ (∀ g, pm_i S g a = pm_i E g a) ∧ (∀ g, pm_j S g a = pm_j E g a) ∧ (∀ g, pm_p S g a = pm_p E g a) ∧ (∀ k, pm_x S a k = pm_x E a k) ∧ (∀ k, pm_y S a k = pm_y E a k) ∧ ∀ k, pm_z S a k = pm_z E a k
/-- what isn't the class's is as in E -/
def vE (E S : pm_S) (ad : Nat → Nat) : Prop := ∀ c, (20000 ≤ c ∧ c < 20031) ∨ c = 30000 → pm_e8 E S (ad c)
/-- the class's objects hold the state -/
def pm_CR (Z : az) (S : pm_S) (Y : pm_Y) (E : pm_S) : Prop :=
  (∀ c d, lv (az_a Z 0) Y.2.1 c → lv (az_a Z 0) Y.2.1 d → Y.1 c = Y.1 d → c = d) ∧ (∀ c, lv (az_a Z 0) Y.2.1 c → pm_k S (Y.1 c) ≠ 0) ∧ sC S Y.1 ∧ (∀ p, p < az_a Z 0 → sP S Y.1 p) ∧ vB Z S Y.1 ∧ vA Z S Y.1 ∧ vN Z S Y.1 ∧ vJ Z S Y.1 ∧ vX Z S Y.1 ∧ vK Z S Y.1 ∧ vW Z S Y.1 ∧ vP Z S Y.1 ∧ vT Z S Y.1 ∧ vM Z S Y.1 Y.2.1 Y.2.2 ∧ vE E S Y.1
