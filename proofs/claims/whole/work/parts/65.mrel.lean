/-! the reference over the abstract state -/
def tmB : Nat → Option Nat
  | 6 => some 1 | 7 => some 2 | 8 => some 0 | 10 => some 11 | 11 => some 9 | 12 => some 10 | 14 => some 7 | 17 => some 8 | 18 => some 6 | _ => none
def tmA : Nat → Option Nat
  | 25 => some 0 | 26 => some 3 | 31 => some 8 | 35 => some 9 | 36 => some 4 | 37 => some 5 | 38 => some 6 | 39 => some 7 | _ => none
def rB (Z : az) (M : pm_N) : Prop := ∀ p, p < az_a Z 0 → ∀ s i, tmB s = some i → M.1 s p = nI (az_b Z i p)
def rA (Z : az) (M : pm_N) : Prop := ∀ f i, tmA f = some i → M.2 f = nI (az_a Z i)
def rS (Z : az) (M : pm_N) : Prop := ∀ p, p < az_a Z 0 → M.1 23 p = nI (az_b Z 5 p + 1)
def rN (Z : az) (M : pm_N) : Prop := ∀ p, p < az_a Z 0 → M.1 9 p = zNm (az_e Z 0 p)
def rQ (Z : az) (M : pm_N) : Prop := ∀ p, p < az_a Z 0 → (az_b Z 1 p ≠ 1 → M.1 22 p = 0) ∧ (az_b Z 1 p = 1 → M.1 19 p = nI (az_b Z 3 p) ∧ ((az_e Z 1 p = none ∧ M.1 22 p = 0) ∨ ∃ u, az_e Z 1 p = some u ∧ M.1 22 p = 1 ∧ M.1 21 p = nI (min u 2000000000) ∧ M.1 20 p = nI (az_b Z 4 p)))
def rK (Z : az) (M : pm_N) : Prop := ∀ p, p < az_a Z 0 → (∀ i, i < az_b Z 7 p → M.1 13 (16 * p + i) = nI (az_c Z 0 p i)) ∧ ∀ i, i < az_b Z 8 p → M.1 15 (8 * p + i) = nI (az_c Z 1 p i) ∧ M.1 16 (8 * p + i) = nI (az_c Z 2 p i)
def rL (Z : az) (M : pm_N) : Prop := ∀ p q, p < 60 → q < 60 → M.1 24 (60 * p + q) = (if az_f Z p q = true then 1 else 0)
def rV (Z : az) (M : pm_N) : Prop := M.2 30 = nI (az_w Z).length ∧ ∀ i t, (az_w Z)[i]? = some t → M.1 27 i = nI t.2.1 ∧ M.1 28 i = nI t.2.2 ∧ M.1 29 i = nI t.1
def rX (Z : az) (M : pm_N) : Prop := (∀ k, k < 300 → M.1 2 k = az_x Z 0 (4 * k) ∧ M.1 3 k = az_x Z 0 (4 * k + 1) ∧ M.1 4 k = az_x Z 0 (4 * k + 2) ∧ M.1 5 k = az_x Z 0 (4 * k + 3)) ∧ ∀ i, i < 600 → i < az_a Z 9 → M.1 34 i = az_x Z 1 i
def rF (b : Nat) (Z : az) (M : pm_N) : Prop := M.2 33 = nI (az_a Z 1 - b) ∧ b ≤ az_a Z 1 ∧ ∀ i, i < az_a Z 1 - b → M.1 32 i = nI (az_c Z 3 0 (b + i))
def rG (Z : az) (M : pm_N) : Prop := ∀ p, p < az_a Z 0 → (∀ j, j < 8 → sl M (8 * p + j) (az_t Z 0 p j)) ∧ (∀ k, k < az_b Z 9 p → sl M (480 + 40 * p + k) (az_t Z 2 p k)) ∧ (az_b Z 1 p = 2 → sl M (2880 + p) (az_t Z 1 p 0))
def rZ (Z : az) (M : pm_N) : Prop := ∀ p, az_a Z 0 ≤ p → p < 60 → ∀ s, (s = 10 ∨ s = 11 ∨ s = 12 ∨ s = 14 ∨ s = 17 ∨ s = 18 ∨ s = 22) → M.1 s p = 0
def mR (b : Nat) (Z : az) (M : pm_N) : Prop := rB Z M ∧ rA Z M ∧ rS Z M ∧ rN Z M ∧ rQ Z M ∧ rK Z M ∧ rL Z M ∧ rV Z M ∧ rX Z M ∧ rF b Z M ∧ rG Z M ∧ rZ Z M
theorem sl.cg {M M2 : pm_N} {t : Nat} {w : List Int32} (h0 : ∀ k, M2.1 0 k = M.1 0 k) (h1 : ∀ k, M2.1 1 k = M.1 1 k) (h : sl M t w) : sl M2 t w := ⟨h.1, (h1 t).trans h.2.1, fun k hk => (h0 _).trans (h.2.2 k hk)⟩
theorem mx_comm {M : pm_N} {s k s' k' : Nat} {v v' : Int32} (h : s ≠ s' ∨ k ≠ k') : mx (mx M s k v) s' k' v' = mx (mx M s' k' v') s k v := by
  refine Prod.ext (funext fun a => funext fun b => ?_) rfl
  show (if a = s' ∧ b = k' then v' else if a = s ∧ b = k then v else M.1 a b) = (if a = s ∧ b = k then v else if a = s' ∧ b = k' then v' else M.1 a b)
  by_cases q : a = s' ∧ b = k'
  · rw [if_pos q, if_neg (fun z => by omega), if_pos q]
  · rw [if_neg q, if_neg q]
theorem zb_comm {Z : az} {i p j q v w : Nat} (h : i ≠ j) : zs_b (zs_b Z i p v) j q w = zs_b (zs_b Z j q w) i p v := by
  refine az_ext rfl (funext fun a => funext fun b => ?_) rfl rfl rfl rfl rfl rfl
  rw [z_b_b, z_b_b, z_b_b, z_b_b]
  by_cases e : a = j ∧ b = q
  · rw [if_pos e, if_neg (fun z => by omega), if_pos e]
  · rw [if_neg e, if_neg e]
section MRL
variable {b : Nat} {Z : az} {M : pm_N}
theorem mR.B (h : mR b Z M) {p s i : Nat} (hp : p < az_a Z 0) (hs : tmB s = some i) : M.1 s p = nI (az_b Z i p) := h.1 p hp s i hs
theorem mR.A (h : mR b Z M) {f i : Nat} (hf : tmA f = some i) : M.2 f = nI (az_a Z i) := h.2.1 f i hf
theorem rQ_cg {Z' : az} {M2 : pm_N} {q : Nat} (h : (az_b Z 1 q ≠ 1 → M.1 22 q = 0) ∧ (az_b Z 1 q = 1 → M.1 19 q = nI (az_b Z 3 q) ∧ ((az_e Z 1 q = none ∧ M.1 22 q = 0) ∨ ∃ u, az_e Z 1 q = some u ∧ M.1 22 q = 1 ∧ M.1 21 q = nI (min u 2000000000) ∧ M.1 20 q = nI (az_b Z 4 q)))) (e1 : M2.1 22 q = M.1 22 q) (e2 : M2.1 19 q = M.1 19 q) (e3 : M2.1 21 q = M.1 21 q) (e4 : M2.1 20 q = M.1 20 q) (e5 : az_b Z' 1 q = az_b Z 1 q) (e6 : az_b Z' 3 q = az_b Z 3 q) (e7 : az_b Z' 4 q = az_b Z 4 q) (e8 : az_e Z' 1 q = az_e Z 1 q) : (az_b Z' 1 q ≠ 1 → M2.1 22 q = 0) ∧ (az_b Z' 1 q = 1 → M2.1 19 q = nI (az_b Z' 3 q) ∧ ((az_e Z' 1 q = none ∧ M2.1 22 q = 0) ∨ ∃ u, az_e Z' 1 q = some u ∧ M2.1 22 q = 1 ∧ M2.1 21 q = nI (min u 2000000000) ∧ M2.1 20 q = nI (az_b Z' 4 q))) := by
  rw [e1, e2, e3, e4, e5, e6, e7, e8]; exact h
theorem rK_cg {Z' : az} {M2 : pm_N} {q : Nat} (h : (∀ i, i < az_b Z 7 q → M.1 13 (16 * q + i) = nI (az_c Z 0 q i)) ∧ ∀ i, i < az_b Z 8 q → M.1 15 (8 * q + i) = nI (az_c Z 1 q i) ∧ M.1 16 (8 * q + i) = nI (az_c Z 2 q i)) (e1 : ∀ i, M2.1 13 i = M.1 13 i) (e2 : ∀ i, M2.1 15 i = M.1 15 i) (e3 : ∀ i, M2.1 16 i = M.1 16 i) (e4 : az_b Z' 7 q = az_b Z 7 q) (e5 : az_b Z' 8 q = az_b Z 8 q) (e6 : az_c Z' = az_c Z) : (∀ i, i < az_b Z' 7 q → M2.1 13 (16 * q + i) = nI (az_c Z' 0 q i)) ∧ ∀ i, i < az_b Z' 8 q → M2.1 15 (8 * q + i) = nI (az_c Z' 1 q i) ∧ M2.1 16 (8 * q + i) = nI (az_c Z' 2 q i) := by
  rw [e4, e5, e6]
  exact ⟨fun i hi => (e1 _).trans (h.1 i hi), fun i hi => ⟨(e2 _).trans (h.2 i hi).1, (e3 _).trans (h.2 i hi).2⟩⟩
theorem mR.e2 (h : mR b Z M) {a : Nat} {r : Option Nat} : mR b (zs_e Z 2 a r) M := by
  obtain ⟨g1, g2, g3, g4, g5, g6, g7, g8, g9, g10, g11, g12⟩ := h
  refine ⟨?_, ?_, ?_, ?_, ?_, ?_, ?_, ?_, ?_, ?_, ?_, ?_⟩
  · exact fun q hq s i hs => by exact g1 q hq s i hs
  · exact fun f i hf => by exact g2 f i hf
  · exact fun q hq => by exact g3 q hq
  · exact fun q hq => by rw [z_e_e, if_neg (fun z => by omega)]; exact g4 q hq
  · exact fun q hq => by rw [z_e_e, if_neg (fun z => by omega)]; exact g5 q hq
  · exact fun q hq => rK_cg (g6 q hq) (fun i => by rfl) (fun i => by rfl) (fun i => by rfl) rfl rfl rfl
  · exact fun q r hq hr => by exact g7 q r hq hr
  · exact ⟨by exact g8.1, fun i t hi => by exact g8.2 i t hi⟩
  · exact ⟨fun k hk => by exact g9.1 k hk, fun i hi hi2 => by exact g9.2 i hi hi2⟩
  · exact ⟨by exact g10.1, g10.2.1, fun i hi => by exact g10.2.2 i hi⟩
  · exact fun q hq => ⟨fun j hj => ((g11 q hq).1 j hj).cg (fun _ => rfl) (fun _ => rfl), fun k hk => by exact ((g11 q hq).2.1 k hk).cg (fun _ => rfl) (fun _ => rfl), fun hd => by exact ((g11 q hq).2.2 hd).cg (fun _ => rfl) (fun _ => rfl)⟩
  · exact fun q hq hq2 s hs => by exact g12 q hq hq2 s hs
theorem mR.b12 (h : mR b Z M) {p v : Nat} : mR b (zs_b Z 12 p v) M := by
  obtain ⟨g1, g2, g3, g4, g5, g6, g7, g8, g9, g10, g11, g12⟩ := h
  refine ⟨?_, ?_, ?_, ?_, ?_, ?_, ?_, ?_, ?_, ?_, ?_, ?_⟩
  · intro q hq s i hs
    rw [z_b_b, if_neg (fun z => by rw [z.1] at hs; unfold tmB at hs; split at hs <;> cases hs)]
    exact g1 q hq s i hs
  · exact fun f i hf => by exact g2 f i hf
  · exact fun q hq => by rw [z_b_bne (by decide)]; exact g3 q hq
  · exact fun q hq => by exact g4 q hq
  · exact fun q hq => rQ_cg (g5 q hq) (by rfl) (by rfl) (by rfl) (by rfl) (by rw [z_b_bne (by decide)]) (by rw [z_b_bne (by decide)]) (by rw [z_b_bne (by decide)]) rfl
  · exact fun q hq => rK_cg (g6 q hq) (fun i => by rfl) (fun i => by rfl) (fun i => by rfl) (by rw [z_b_bne (by decide)]) (by rw [z_b_bne (by decide)]) rfl
  · exact fun q r hq hr => by exact g7 q r hq hr
  · exact ⟨by exact g8.1, fun i t hi => by exact g8.2 i t hi⟩
  · exact ⟨fun k hk => by exact g9.1 k hk, fun i hi hi2 => by exact g9.2 i hi hi2⟩
  · exact ⟨by exact g10.1, g10.2.1, fun i hi => by exact g10.2.2 i hi⟩
  · exact fun q hq => ⟨fun j hj => ((g11 q hq).1 j hj).cg (fun _ => rfl) (fun _ => rfl), fun k hk => by rw [z_b_bne (by decide)] at hk; exact ((g11 q hq).2.1 k hk).cg (fun _ => rfl) (fun _ => rfl), fun hd => by rw [z_b_bne (by decide)] at hd; exact ((g11 q hq).2.2 hd).cg (fun _ => rfl) (fun _ => rfl)⟩
  · exact fun q hq hq2 s hs => by exact g12 q hq hq2 s hs
theorem mR.a2 (h : mR b Z M) {v : Nat} : mR b (zs_a Z 2 v) M := by
  obtain ⟨g1, g2, g3, g4, g5, g6, g7, g8, g9, g10, g11, g12⟩ := h
  refine ⟨?_, ?_, ?_, ?_, ?_, ?_, ?_, ?_, ?_, ?_, ?_, ?_⟩
  · exact fun q hq s i hs => by exact g1 q hq s i hs
  · intro f i hf
    rw [z_a_a, if_neg (fun z => by rw [z] at hf; unfold tmA at hf; split at hf <;> cases hf)]
    exact g2 f i hf
  · exact fun q hq => by exact g3 q hq
  · exact fun q hq => by exact g4 q hq
  · exact fun q hq => rQ_cg (g5 q hq) (by rfl) (by rfl) (by rfl) (by rfl) rfl rfl rfl rfl
  · exact fun q hq => rK_cg (g6 q hq) (fun i => by rfl) (fun i => by rfl) (fun i => by rfl) rfl rfl rfl
  · exact fun q r hq hr => by exact g7 q r hq hr
  · exact ⟨by exact g8.1, fun i t hi => by exact g8.2 i t hi⟩
  · exact ⟨fun k hk => by exact g9.1 k hk, fun i hi hi2 => by exact g9.2 i hi hi2⟩
  · exact ⟨by exact g10.1, g10.2.1, fun i hi => by exact g10.2.2 i hi⟩
  · exact fun q hq => ⟨fun j hj => ((g11 q hq).1 j hj).cg (fun _ => rfl) (fun _ => rfl), fun k hk => by exact ((g11 q hq).2.1 k hk).cg (fun _ => rfl) (fun _ => rfl), fun hd => by exact ((g11 q hq).2.2 hd).cg (fun _ => rfl) (fun _ => rfl)⟩
  · exact fun q hq hq2 s hs => by exact g12 q hq hq2 s hs
theorem mR.thr (h : mR b Z M) {v : Int32} : mR b Z (mi M 40 v) := by
  obtain ⟨g1, g2, g3, g4, g5, g6, g7, g8, g9, g10, g11, g12⟩ := h
  refine ⟨?_, ?_, ?_, ?_, ?_, ?_, ?_, ?_, ?_, ?_, ?_, ?_⟩
  · exact fun q hq s i hs => by rw [mi_1]; exact g1 q hq s i hs
  · exact fun f i hf => by rw [mi_2, if_neg (fun z => by rw [z] at hf; cases hf)]; exact g2 f i hf
  · exact fun q hq => by rw [mi_1]; exact g3 q hq
  · exact fun q hq => by rw [mi_1]; exact g4 q hq
  · exact fun q hq => rQ_cg (g5 q hq) (by rw [mi_1]) (by rw [mi_1]) (by rw [mi_1]) (by rw [mi_1]) rfl rfl rfl rfl
  · exact fun q hq => rK_cg (g6 q hq) (fun i => by rw [mi_1]) (fun i => by rw [mi_1]) (fun i => by rw [mi_1]) rfl rfl rfl
  · exact fun q r hq hr => by rw [mi_1]; exact g7 q r hq hr
  · exact ⟨by rw [mi_2, if_neg (by decide)]; exact g8.1, fun i t hi => by rw [mi_1]; rw [mi_1]; rw [mi_1]; exact g8.2 i t hi⟩
  · exact ⟨fun k hk => by rw [mi_1]; rw [mi_1]; rw [mi_1]; rw [mi_1]; exact g9.1 k hk, fun i hi hi2 => by rw [mi_1]; exact g9.2 i hi hi2⟩
  · exact ⟨by rw [mi_2, if_neg (by decide)]; exact g10.1, g10.2.1, fun i hi => by rw [mi_1]; exact g10.2.2 i hi⟩
  · exact fun q hq => ⟨fun j hj => ((g11 q hq).1 j hj).cg (fun k => by rw [mi_1]) (fun k => by rw [mi_1]), fun k hk => by exact ((g11 q hq).2.1 k hk).cg (fun k => by rw [mi_1]) (fun k => by rw [mi_1]), fun hd => by exact ((g11 q hq).2.2 hd).cg (fun k => by rw [mi_1]) (fun k => by rw [mi_1])⟩
  · exact fun q hq hq2 s hs => by rw [mi_1]; exact g12 q hq hq2 s hs
theorem tmB_inj {s t i : Nat} (h1 : tmB s = some i) (h2 : tmB t = some i) : s = t := by
  unfold tmB at h1 h2
  split at h1 <;> first | (cases h1; done) | (cases h1; split at h2 <;> first | (cases h2; done) | rfl)
theorem tmA_inj {s t i : Nat} (h1 : tmA s = some i) (h2 : tmA t = some i) : s = t := by
  unfold tmA at h1 h2
  split at h1 <;> first | (cases h1; done) | (cases h1; split at h2 <;> first | (cases h2; done) | rfl)
theorem tmB_s {s i : Nat} (h : tmB s = some i) : s = 6 ∨ s = 7 ∨ s = 8 ∨ s = 11 ∨ s = 12 ∨ s = 14 ∨ s = 17 ∨ s = 18 ∨ s = 10 := by
  unfold tmB at h
  split at h <;> first | (cases h; done) | simp
theorem tmA_f {f i : Nat} (h : tmA f = some i) : f = 25 ∨ f = 26 ∨ f = 31 ∨ f = 35 ∨ f = 36 ∨ f = 37 ∨ f = 38 ∨ f = 39 := by
  unfold tmA at h
  split at h <;> first | (cases h; done) | simp
theorem mR.b0 (h : mR b Z M) {p s i v : Nat} (hp : p < az_a Z 0) (hs : tmB s = some i) (hi : i ≠ 1 ∧ i ≠ 3 ∧ i ≠ 4 ∧ i ≠ 5 ∧ i ≠ 7 ∧ i ≠ 8 ∧ i ≠ 9) : mR b (zs_b Z i p v) (mx M s p (nI v)) := by
  obtain ⟨g1, g2, g3, g4, g5, g6, g7, g8, g9, g10, g11, g12⟩ := h
  have hss := tmB_s hs
  refine ⟨?_, ?_, ?_, ?_, ?_, ?_, ?_, ?_, ?_, ?_, ?_, ?_⟩
  · intro q hq s2 i2 hs2
    rw [mx_1, z_b_b]
    by_cases e : s2 = s ∧ q = p
    · rw [if_pos e]
      rw [e.1, hs] at hs2
      cases hs2
      rw [if_pos ⟨rfl, e.2⟩]
    · rw [if_neg e, if_neg (fun z => e ⟨tmB_inj (by rw [← z.1]; exact hs2) hs, z.2⟩)]
      exact g1 q hq s2 i2 hs2
  · exact fun f i hf => by rw [mx_2]; exact g2 f i hf
  · exact fun q hq => by rw [mx_o (by omega), z_b_bne (by omega)]; exact g3 q hq
  · exact fun q hq => by rw [mx_o (by omega)]; exact g4 q hq
  · exact fun q hq => rQ_cg (g5 q hq) (mx_o (by omega)) (mx_o (by omega)) (mx_o (by omega)) (mx_o (by omega)) (z_b_bne (by omega)) (z_b_bne (by omega)) (z_b_bne (by omega)) rfl
  · exact fun q hq => rK_cg (g6 q hq) (fun i => mx_o (by omega)) (fun i => mx_o (by omega)) (fun i => mx_o (by omega)) (z_b_bne (by omega)) (z_b_bne (by omega)) rfl
  · exact fun q r hq hr => by rw [mx_o (by omega)]; exact g7 q r hq hr
  · exact ⟨by rw [mx_2]; exact g8.1, fun i t hi => by rw [mx_o (by omega), mx_o (by omega), mx_o (by omega)]; exact g8.2 i t hi⟩
  · exact ⟨fun k hk => by rw [mx_o (by omega), mx_o (by omega), mx_o (by omega), mx_o (by omega)]; exact g9.1 k hk, fun i hi hi2 => by rw [mx_o (by omega)]; exact g9.2 i hi hi2⟩
  · exact ⟨by rw [mx_2]; exact g10.1, g10.2.1, fun i hi => by rw [mx_o (by omega)]; exact g10.2.2 i hi⟩
  · exact fun q hq => ⟨fun j hj => ((g11 q hq).1 j hj).cg (fun k => mx_o (by omega)) (fun k => mx_o (by omega)), fun k hk => by rw [z_b_bne (by omega)] at hk; exact ((g11 q hq).2.1 k hk).cg (fun k => mx_o (by omega)) (fun k => mx_o (by omega)), fun hd => by rw [z_b_bne (by omega)] at hd; exact ((g11 q hq).2.2 hd).cg (fun k => mx_o (by omega)) (fun k => mx_o (by omega))⟩
  · exact fun q hq hq2 s2 hs2 => by rw [mx_k (fun z => by rw [z] at hq; exact absurd hp (Nat.not_lt.mpr hq))]; exact g12 q hq hq2 s2 hs2
theorem mR.dn (h : mR b Z M) {p s i v : Nat} (hp : p < az_a Z 0) (hs : tmB s = some i) (hi : i = 7 ∨ i = 8 ∨ i = 9) (hv : v ≤ az_b Z i p) : mR b (zs_b Z i p v) (mx M s p (nI v)) := by
  obtain ⟨g1, g2, g3, g4, g5, g6, g7, g8, g9, g10, g11, g12⟩ := h
  have hss := tmB_s hs
  refine ⟨?_, ?_, ?_, ?_, ?_, ?_, ?_, ?_, ?_, ?_, ?_, ?_⟩
  · intro q hq s2 i2 hs2
    rw [mx_1, z_b_b]
    by_cases e : s2 = s ∧ q = p
    · rw [if_pos e]
      rw [e.1, hs] at hs2
      cases hs2
      rw [if_pos ⟨rfl, e.2⟩]
    · rw [if_neg e, if_neg (fun z => e ⟨tmB_inj (by rw [← z.1]; exact hs2) hs, z.2⟩)]
      exact g1 q hq s2 i2 hs2
  · exact fun f i hf => by rw [mx_2]; exact g2 f i hf
  · exact fun q hq => by rw [mx_o (by omega), z_b_bne (by omega)]; exact g3 q hq
  · exact fun q hq => by rw [mx_o (by omega)]; exact g4 q hq
  · exact fun q hq => rQ_cg (g5 q hq) (mx_o (by omega)) (mx_o (by omega)) (mx_o (by omega)) (mx_o (by omega)) (z_b_bne (by omega)) (z_b_bne (by omega)) (z_b_bne (by omega)) rfl
  · intro q hq
    by_cases e : q = p
    · subst e
      refine ⟨fun i hi => ?_, fun i hi => ?_⟩
      · rw [mx_o (by omega)]
        refine (g6 q hq).1 i ?_
        rw [z_b_b] at hi
        split at hi
        · rename_i z; rw [← z.1] at hv; omega
        · exact hi
      · rw [mx_o (by omega), mx_o (by omega)]
        refine (g6 q hq).2 i ?_
        rw [z_b_b] at hi
        split at hi
        · rename_i z; rw [← z.1] at hv; omega
        · exact hi
    · exact rK_cg (g6 q hq) (fun i => mx_o (by omega)) (fun i => mx_o (by omega)) (fun i => mx_o (by omega)) (by rw [z_b_b, if_neg (fun z => e z.2)]) (by rw [z_b_b, if_neg (fun z => e z.2)]) rfl
  · exact fun q r hq hr => by rw [mx_o (by omega)]; exact g7 q r hq hr
  · exact ⟨by rw [mx_2]; exact g8.1, fun i t hi => by rw [mx_o (by omega), mx_o (by omega), mx_o (by omega)]; exact g8.2 i t hi⟩
  · exact ⟨fun k hk => by rw [mx_o (by omega), mx_o (by omega), mx_o (by omega), mx_o (by omega)]; exact g9.1 k hk, fun i hi hi2 => by rw [mx_o (by omega)]; exact g9.2 i hi hi2⟩
  · exact ⟨by rw [mx_2]; exact g10.1, g10.2.1, fun i hi => by rw [mx_o (by omega)]; exact g10.2.2 i hi⟩
  · intro q hq
    refine ⟨fun j hj => ((g11 q hq).1 j hj).cg (fun k => mx_o (by omega)) (fun k => mx_o (by omega)), fun k hk => ?_, fun hd => by rw [z_b_bne (by omega)] at hd; exact ((g11 q hq).2.2 hd).cg (fun k => mx_o (by omega)) (fun k => mx_o (by omega))⟩
    refine ((g11 q hq).2.1 k ?_).cg (fun k => mx_o (by omega)) (fun k => mx_o (by omega))
    rw [z_b_b] at hk
    split at hk
    · rename_i z; rw [← z.1, ← z.2] at hv; omega
    · exact hk
  · exact fun q hq hq2 s2 hs2 => by rw [mx_k (fun z => by rw [z] at hq; exact absurd hp (Nat.not_lt.mpr hq))]; exact g12 q hq hq2 s2 hs2
theorem mR.a0 (h : mR b Z M) {f i v : Nat} (hf : tmA f = some i) (hi : i ≠ 0 ∧ i ≠ 1 ∧ i ≠ 9) : mR b (zs_a Z i v) (mi M f (nI v)) := by
  obtain ⟨g1, g2, g3, g4, g5, g6, g7, g8, g9, g10, g11, g12⟩ := h
  have hff := tmA_f hf
  refine ⟨?_, ?_, ?_, ?_, ?_, ?_, ?_, ?_, ?_, ?_, ?_, ?_⟩
  · exact fun q hq s i2 hs => g1 q (by rw [z_a_a, if_neg (by omega)] at hq; exact hq) s i2 hs
  · intro f2 i2 hf2
    rw [mi_2, z_a_a]
    by_cases e : f2 = f
    · rw [e, hf] at hf2
      cases hf2
      rw [if_pos e, if_pos rfl]
    · rw [if_neg e, if_neg (fun z => e (tmA_inj (by rw [← z]; exact hf2) hf))]
      exact g2 f2 i2 hf2
  · exact fun q hq => g3 q (by rw [z_a_a, if_neg (by omega)] at hq; exact hq)
  · exact fun q hq => g4 q (by rw [z_a_a, if_neg (by omega)] at hq; exact hq)
  · exact fun q hq => g5 q (by rw [z_a_a, if_neg (by omega)] at hq; exact hq)
  · exact fun q hq => g6 q (by rw [z_a_a, if_neg (by omega)] at hq; exact hq)
  · exact g7
  · exact ⟨by rw [mi_2, if_neg (by omega)]; exact g8.1, g8.2⟩
  · exact ⟨g9.1, fun i2 hi2 hi3 => g9.2 i2 hi2 (by rw [z_a_a, if_neg (by omega)] at hi3; exact hi3)⟩
  · refine ⟨?_, ?_, fun i2 hi2 => ?_⟩
    · rw [mi_2, if_neg (by omega), z_a_a, if_neg (by omega)]; exact g10.1
    · rw [z_a_a, if_neg (by omega)]; exact g10.2.1
    · rw [z_a_a, if_neg (by omega)] at hi2; exact g10.2.2 i2 hi2
  · exact fun q hq => g11 q (by rw [z_a_a, if_neg (by omega)] at hq; exact hq)
  · exact fun q hq => g12 q (by rw [z_a_a, if_neg (by omega)] at hq; exact hq)
theorem mR.turn (h : mR b Z M) {p : Nat} (hp : p < az_a Z 0) : mR b (zTurn Z p) (mx (mi M 26 (nI (az_a Z 3 + 1))) 23 p (nI (az_a Z 3 + 1))) := by
  obtain ⟨g1, g2, g3, g4, g5, g6, g7, g8, g9, g10, g11, g12⟩ := h
  refine ⟨?_, ?_, ?_, ?_, ?_, ?_, ?_, ?_, ?_, ?_, ?_, ?_⟩
  · intro q hq s i hs
    have hss := tmB_s hs
    unfold zTurn
    rw [mx_o (by omega), mi_1, z_b_a, z_b_bne (fun z => by rw [z] at hs; unfold tmB at hs; split at hs <;> cases hs)]
    exact g1 q hq s i hs
  · intro f i hf
    unfold zTurn
    rw [mx_2, mi_2, z_a_a]
    by_cases e : f = 26
    · rw [e] at hf; cases hf
      rw [if_pos e, if_pos rfl]
    · rw [if_neg e, if_neg (fun z => e (tmA_inj (i := 3) (by rw [← z]; exact hf) rfl))]
      exact g2 f i hf
  · intro q hq
    unfold zTurn
    rw [mx_1, z_b_a, z_b_b]
    by_cases e : q = p
    · rw [if_pos ⟨rfl, e⟩, if_pos ⟨rfl, e⟩]
    · rw [if_neg (fun z => e z.2), if_neg (fun z => e z.2), mi_1]; exact g3 q hq
  · exact fun q hq => by rw [mx_o (by decide), mi_1]; exact g4 q hq
  · exact fun q hq => rQ_cg (g5 q hq) (by rw [mx_o (by decide)]; rfl) (by rw [mx_o (by decide)]; rfl) (by rw [mx_o (by decide)]; rfl) (by rw [mx_o (by decide)]; rfl) (by unfold zTurn; rw [z_b_a, z_b_bne (by decide)]) (by unfold zTurn; rw [z_b_a, z_b_bne (by decide)]) (by unfold zTurn; rw [z_b_a, z_b_bne (by decide)]) rfl
  · exact fun q hq => rK_cg (g6 q hq) (fun i => by rw [mx_o (by decide)]; rfl) (fun i => by rw [mx_o (by decide)]; rfl) (fun i => by rw [mx_o (by decide)]; rfl) (by unfold zTurn; rw [z_b_a, z_b_bne (by decide)]) (by unfold zTurn; rw [z_b_a, z_b_bne (by decide)]) rfl
  · exact fun q r hq hr => by rw [mx_o (by decide), mi_1]; exact g7 q r hq hr
  · exact ⟨by rw [mx_2, mi_2, if_neg (by decide)]; exact g8.1, fun i t hi => by rw [mx_o (by decide), mi_1]; rw [mx_o (by decide), mi_1]; rw [mx_o (by decide), mi_1]; exact g8.2 i t hi⟩
  · exact ⟨fun k hk => by rw [mx_o (by decide), mi_1]; rw [mx_o (by decide), mi_1]; rw [mx_o (by decide), mi_1]; rw [mx_o (by decide), mi_1]; exact g9.1 k hk, fun i hi hi2 => by rw [mx_o (by decide), mi_1]; exact g9.2 i hi hi2⟩
  · exact ⟨by rw [mx_2, mi_2, if_neg (by decide)]; exact g10.1, g10.2.1, fun i hi => by rw [mx_o (by decide), mi_1]; exact g10.2.2 i hi⟩
  · exact fun q hq => ⟨fun j hj => ((g11 q hq).1 j hj).cg (fun k => by rw [mx_o (by decide)]; rfl) (fun k => by rw [mx_o (by decide)]; rfl), fun k hk => by unfold zTurn at hk; rw [z_b_a, z_b_bne (by decide)] at hk; exact ((g11 q hq).2.1 k hk).cg (fun k => by rw [mx_o (by decide)]; rfl) (fun k => by rw [mx_o (by decide)]; rfl), fun hd => by unfold zTurn at hd; rw [z_b_a, z_b_bne (by decide)] at hd; exact ((g11 q hq).2.2 hd).cg (fun k => by rw [mx_o (by decide)]; rfl) (fun k => by rw [mx_o (by decide)]; rfl)⟩
  · exact fun q hq hq2 s hs => by rw [mx_o (by omega), mi_1]; exact g12 q hq hq2 s hs
end MRL
