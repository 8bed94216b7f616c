/-! the reference: what its arrays and fields hold -/
def pm_N : Type := (Nat → Nat → Int32) × (Nat → Int32)
def mx (M : pm_N) (s k : Nat) (v : Int32) : pm_N := ((fun s' k' => if s' = s ∧ k' = k then v else M.1 s' k'), M.2)
def mi (M : pm_N) (f : Nat) (v : Int32) : pm_N := (M.1, fun f' => if f' = f then v else M.2 f')
theorem mx_1 (M : pm_N) (s k : Nat) (v : Int32) (s' k' : Nat) : (mx M s k v).1 s' k' = if s' = s ∧ k' = k then v else M.1 s' k' := rfl
theorem mx_2 (M : pm_N) (s k : Nat) (v : Int32) (f : Nat) : (mx M s k v).2 f = M.2 f := rfl
theorem mi_1 (M : pm_N) (f : Nat) (v : Int32) (s k : Nat) : (mi M f v).1 s k = M.1 s k := rfl
theorem mi_2 (M : pm_N) (f : Nat) (v : Int32) (f' : Nat) : (mi M f v).2 f' = if f' = f then v else M.2 f' := rfl
theorem mx_s {M : pm_N} {s k : Nat} {v : Int32} : (mx M s k v).1 s k = v := if_pos ⟨rfl, rfl⟩
theorem mx_o {M : pm_N} {s k : Nat} {v : Int32} {s' k' : Nat} (h : s' ≠ s) : (mx M s k v).1 s' k' = M.1 s' k' := if_neg (fun z => h z.1)
theorem mx_k {M : pm_N} {s k : Nat} {v : Int32} {s' k' : Nat} (h : k' ≠ k) : (mx M s k v).1 s' k' = M.1 s' k' := if_neg (fun z => h z.2)
/-- how long the array of a field is -/
def mlen : Nat → Nat
  | 0 => 279775 | 1 => 2945 | 2 => 300 | 3 => 300 | 4 => 300 | 5 => 300 | 6 => 60 | 7 => 60 | 8 => 60 | 9 => 60 | 10 => 60 | 11 => 60 | 12 => 60 | 13 => 960 | 14 => 60 | 15 => 480 | 16 => 480 | 17 => 60 | 18 => 60 | 19 => 60 | 20 => 60 | 21 => 60 | 22 => 60 | 23 => 60 | 24 => 3600 | 27 => 200 | 28 => 200 | 29 => 200 | 32 => 60 | 34 => 600 | _ => 0
def mB : Nat → Bool
  | 10 => true | 22 => true | 24 => true | _ => false
def pm_MX (M : pm_N) (S : pm_S) (A : Nat → Nat) (E : pm_S) : Prop :=
  pm_k S (A 50) = 8 ∧ (∀ s, 0 < mlen s → pm_p S (350 + s) (A 50) = some (A s) ∧ pm_k S (A s) = (if mB s = true then 10 else 9) ∧ pm_n S (A s) = mlen s) ∧ (∀ s t, 0 < mlen s → 0 < mlen t → A s = A t → s = t) ∧ (∀ s, 0 < mlen s → ∀ k, pm_x S (A s) k = M.1 s k) ∧ (∀ f, pm_i S (350 + f) (A 50) = M.2 f) ∧ (∀ b, b ≠ A 50 → (∀ s, 0 < mlen s → b ≠ A s) → pm_e8 E S b) ∧ M.2 40 = nI (A 60)
theorem pm_MX.f {M : pm_N} {S E : pm_S} {A : Nat → Nat} {g f : Nat} (h : pm_MX M S A E) (e : g = 350 + f) : pm_i S g (A 50) = M.2 f := by rw [e]; exact h.2.2.2.2.1 f
theorem pm_MX.si {M : pm_N} {S E : pm_S} {A : Nat → Nat} {g f : Nat} {v : Int32} (h : pm_MX M S A E) (e : g = 350 + f) (hf : 40 ≠ f := by decide) : pm_MX (mi M f v) (pm_si S g (A 50) v) A E := by
  obtain ⟨h1, h2, h3, h4, h5, h6, h7⟩ := h
  refine ⟨h1, h2, h3, h4, fun f' => ?_, fun b hb hb2 => ?_, by rw [mi_2, if_neg hf]; exact h7⟩
  · rw [pm_i_si, mi_2, e]
    by_cases q : f' = f
    · rw [if_pos ⟨by rw [q], rfl⟩, if_pos q]
    · rw [if_neg (fun z => q (by omega)), if_neg q]; exact h5 f'
  · exact e8_tr (h6 b hb hb2) (e8_si hb)
/-- the reference's word on what was thrown -/
def aT (A : Nat → Nat) (v : Nat) : Nat → Nat := fun i => if i = 60 then v else A i
theorem aT_o {A : Nat → Nat} {v i : Nat} (h : i ≠ 60) : aT A v i = A i := if_neg h
theorem mlen60 {s : Nat} (h : 0 < mlen s) : s ≠ 60 := fun z => by rw [z] at h; exact absurd h (by decide)
theorem pm_MX.th {M : pm_N} {S E : pm_S} {A : Nat → Nat} {g v : Nat} (h : pm_MX M S A E) (e : g = 350 + 40) : pm_MX (mi M 40 (nI v)) (pm_si S g (A 50) (nI v)) (aT A v) E := by
  obtain ⟨h1, h2, h3, h4, h5, h6, h7⟩ := h
  have a50 : aT A v 50 = A 50 := aT_o (by decide)
  refine ⟨by rw [a50]; exact h1, fun s hs => ?_, fun s t hs ht e => ?_, fun s hs k => ?_, fun f' => ?_, fun b hb hb2 => ?_, by rw [mi_2, if_pos rfl]; rfl⟩
  · rw [a50, aT_o (mlen60 hs)]; exact h2 s hs
  · rw [aT_o (mlen60 hs), aT_o (mlen60 ht)] at e; exact h3 s t hs ht e
  · rw [aT_o (mlen60 hs)]; exact h4 s hs k
  · rw [pm_i_si, mi_2, e, a50]
    by_cases q : f' = 40
    · rw [if_pos ⟨by rw [q], rfl⟩, if_pos q]
    · rw [if_neg (fun z => q (by omega)), if_neg q]; exact h5 f'
  · rw [a50] at hb
    exact e8_tr (h6 b hb (fun s hs => by have := hb2 s hs; rw [aT_o (mlen60 hs)] at this; exact this)) (e8_si hb)
theorem e8_sx {S : pm_S} {a i b : Nat} {v : Int32} (h : b ≠ a) : pm_e8 S (pm_sx S a i v) b := ⟨rfl, rfl, fun _ => rfl, fun _ => rfl, fun _ => rfl, fun g => by rw [pm_x_sx, if_neg (fun z => h z.1)], fun _ => rfl, fun _ => rfl⟩
theorem pm_MX.sx {M : pm_N} {S E : pm_S} {A : Nat → Nat} {s n : Nat} {v : Int32} (h : pm_MX M S A E) (hs : 0 < mlen s) : pm_MX (mx M s n v) (pm_sx S (A s) n v) A E := by
  obtain ⟨h1, h2, h3, h4, h5, h6, h7⟩ := h
  refine ⟨h1, h2, h3, fun t ht k => ?_, h5, fun b hb hb2 => ?_, h7⟩
  · rw [pm_x_sx, mx_1]
    by_cases q : t = s
    · by_cases q2 : k = n
      · rw [if_pos ⟨by rw [q], q2⟩, if_pos ⟨q, q2⟩]
      · rw [if_neg (fun z => q2 z.2), if_neg (fun z => q2 z.2)]; exact h4 t ht k
    · rw [if_neg (fun z => q (h3 t s ht hs z.1)), if_neg (fun z => q z.1)]; exact h4 t ht k
  · exact e8_tr (h6 b hb hb2) (e8_sx (hb2 s hs))
section MMR
variable {G : pm_G} {l : Launch} {bs : Nat} {own : String} {cc : ByteArray} {nL : Nat} {ini : Bool} {d kc ks : Nat} {Q : Instr → List Value → pm_S → Prop} {pc : Nat} {L rest : List Value} {S E : pm_S} {M : pm_N} {A : Nat → Nat}
theorem mm_gen {S1 : pm_S} {M1 : pm_N} (h : pm_MX M1 S1 A E) (k : ∀ S2, pm_MX M1 S2 A E → pm_W G l bs own cc nL ini d kc ks Q pc L rest S2) : pm_W G l bs own cc nL ini d kc ks Q pc L rest S1 := k S1 h
theorem mlen31 : ∀ s, mlen s < 2 ^ 31 := fun s => by unfold mlen; split <;> decide
theorem mm_iaload {s n : Nat} {i : Int32} (hm : pm_MX M S A E) (hs : 0 < mlen s ∧ mB s = false) (hi : i = nI n) (hn : n < mlen s) (hdg : decode cc pc = .ok (.iaload, 1)) (k : pm_W G l bs own cc nL ini d kc ks Q (pc + 1) L (.int (M.1 s n) :: rest) S) : pm_W G l bs own cc nL ini d kc ks Q pc L (.int i :: .ref (A s) :: rest) S := by
  obtain ⟨-, a2, a3⟩ := hm.2.1 s hs.1
  rw [hs.2, if_neg (by decide)] at a2
  refine pm_iaload (n := n) a2 hi (by rw [a3]; exact hn) (by rw [a3]; exact mlen31 s) hdg ?_
  rw [hm.2.2.2.1 s hs.1]
  exact k
theorem mm_baload {s n : Nat} {i : Int32} (hm : pm_MX M S A E) (hs : 0 < mlen s ∧ mB s = true) (hi : i = nI n) (hn : n < mlen s) (hdg : decode cc pc = .ok (.baload, 1)) (k : pm_W G l bs own cc nL ini d kc ks Q (pc + 1) L (.int (M.1 s n) :: rest) S) : pm_W G l bs own cc nL ini d kc ks Q pc L (.int i :: .ref (A s) :: rest) S := by
  obtain ⟨-, a2, a3⟩ := hm.2.1 s hs.1
  rw [hs.2, if_pos rfl] at a2
  refine pm_baload (n := n) a2 hi (by rw [a3]; exact hn) (by rw [a3]; exact mlen31 s) hdg ?_
  rw [hm.2.2.2.1 s hs.1]
  exact k
theorem mm_iastore {s n : Nat} {i x : Int32} (hm : pm_MX M S A E) (hs : 0 < mlen s ∧ mB s = false) (hi : i = nI n) (hn : n < mlen s) (hdg : decode cc pc = .ok (.iastore, 1)) (k : ∀ S2, pm_MX (mx M s n x) S2 A E → pm_W G l bs own cc nL ini d kc ks Q (pc + 1) L rest S2) : pm_W G l bs own cc nL ini d kc ks Q pc L (.int x :: .int i :: .ref (A s) :: rest) S := by
  obtain ⟨-, a2, a3⟩ := hm.2.1 s hs.1
  rw [hs.2, if_neg (by decide)] at a2
  exact pm_iastore (n := n) a2 hi (by rw [a3]; exact hn) (by rw [a3]; exact mlen31 s) hdg (k _ (hm.sx hs.1))
theorem mm_bastore {s n : Nat} {i x : Int32} (hm : pm_MX M S A E) (hs : 0 < mlen s ∧ mB s = true) (hi : i = nI n) (hn : n < mlen s) (hx : x = 0 ∨ x = 1) (hdg : decode cc pc = .ok (.bastore, 1)) (k : ∀ S2, pm_MX (mx M s n x) S2 A E → pm_W G l bs own cc nL ini d kc ks Q (pc + 1) L rest S2) : pm_W G l bs own cc nL ini d kc ks Q pc L (.int x :: .int i :: .ref (A s) :: rest) S := by
  obtain ⟨-, a2, a3⟩ := hm.2.1 s hs.1
  rw [hs.2, if_pos rfl] at a2
  exact pm_bastore (n := n) a2 hi (by rw [a3]; exact hn) (by rw [a3]; exact mlen31 s) hx hdg (k _ (hm.sx hs.1))
end MMR
/-- slot t tells w -/
def sl (M : pm_N) (t : Nat) (w : List Int32) : Prop := w.length ≤ 95 ∧ M.1 1 t = nI w.length ∧ ∀ k, k < w.length → M.1 0 (95 * t + k) = w.getD k 0
/-- only slot t is another -/
def mT (M M2 : pm_N) (t : Nat) : Prop := (∀ s k, ¬ (s = 1 ∧ k = t) → ¬ (s = 0 ∧ 95 * t ≤ k ∧ k < 95 * t + 95) → M2.1 s k = M.1 s k) ∧ M2.2 = M.2
theorem mT.sl {M M2 : pm_N} {t u : Nat} {w : List Int32} (h : mT M M2 t) (hu : u ≠ t) (hs : sl M u w) : sl M2 u w := by
  refine ⟨hs.1, ?_, fun k hk => ?_⟩
  · rw [h.1 1 u (fun z => hu z.2) (fun z => by omega)]; exact hs.2.1
  · have := hs.1
    rw [h.1 0 _ (fun z => by omega) (fun z => by omega)]; exact hs.2.2 k hk
theorem mT.o {M M2 : pm_N} {t s k : Nat} (h : mT M M2 t) (h0 : s ≠ 0) (h1 : s ≠ 1) : M2.1 s k = M.1 s k := h.1 s k (fun z => h1 z.1) (fun z => h0 z.1)
theorem ix95 {t k : Nat} : (95 : Int32) * nI t + nI k = nI (95 * t + k) := by rw [show (95 : Int32) = nI 95 from rfl, pk_mul, nI_add]
theorem ix95b {t : Nat} : (95 : Int32) * nI t = nI (95 * t) := by rw [show (95 : Int32) = nI 95 from rfl, pk_mul]
set_option maxHeartbeats 4000000 in
set_option maxRecDepth 100000 in
theorem c_X7_thrown (G : pm_G) (l : Launch) (bs : Nat) (A : Nat → Nat) (E : pm_S) (M : pm_N) (S : pm_S) (hm : pm_MX M S A E) : pm_M G l bs yX7_thrown cX7_thrown 1 (some .int) 0 0 0 [.ref (A 50)] S (pm_qi (fun x S2 => x = M.2 40 ∧ S2 = S)) := by
  refine pm_Mi (L := [.ref (A 50)]) (by decide +kernel) rfl (pm_en_1 rfl (pm_en_0 rfl)) ?_
  generalize hQ9 : pm_xi (fun x S2 => x = M.2 40 ∧ S2 = S) = Q9
  refine pm_aload_n dX7_thrown_0 rfl ?_
  refine pm_g_Model_thrown hm.1 pm_f_X7_102 dX7_thrown_1 ?_
  rw [hm.f (g := 390) (f := 40) rfl]
  subst hQ9
  refine pm_iret dX7_thrown_4 ?_
  exact ⟨rfl, rfl⟩

set_option maxHeartbeats 4000000 in
set_option maxRecDepth 100000 in
theorem c_X7_fails (G : pm_G) (l : Launch) (bs : Nat) (A : Nat → Nat) (E : pm_S) (M : pm_N) (so : Int32) (k : Nat) (S : pm_S) (hm : pm_MX M S A E) (hso : so = 0 ∨ so = 1) : pm_M G l bs yX7_fails cX7_fails 3 (some .boolean) 0 0 0 [.ref (A 50), .int so, .int (nI k)] S (pm_qi (fun x S2 => x = so ∧ pm_MX (mi M 40 (nI (if so = 0 then 0 else k))) S2 (aT A (if so = 0 then 0 else k)) E)) := by
  refine pm_Mz (L := [.ref (A 50), .int so, .int (nI k)]) (by decide +kernel) rfl (pm_en_1 rfl (pm_en_1 rfl (pm_en_1 rfl (pm_en_0 rfl)))) ?_
  generalize hQ9 : pm_xz (fun x S2 => x = so ∧ pm_MX (mi M 40 (nI (if so = 0 then 0 else k))) S2 (aT A (if so = 0 then 0 else k)) E) = Q9
  refine pm_aload_n dX7_fails_0 rfl ?_
  refine pm_iload_n dX7_fails_1 rfl ?_
  refine pm_if_eq (tgt := 9) dX7_fails_2 (by decide) (fun h2 => ?_) (fun h2 => ?_)
  · skip
    have h9 : (if so = 0 then 0 else k) = 0 := if_pos h2
    refine pm_iconst (v := 0) dX7_fails_9 (by decide) ?_
    try rw [show Value.int 0 = Value.int (nI (if so = 0 then 0 else k)) from by rw [h9]; rfl]
    try rw [show Value.int (nI k) :: Value.ref (A 50) :: [] = Value.int (nI (if so = 0 then 0 else k)) :: Value.ref (A 50) :: [] from by rw [h9]]
    refine pm_p_Model_thrown hm.1 pm_f_X7_102 dX7_fails_10 ?_
    refine mm_gen (hm.th (g := 390) rfl) (fun S10 hm10 => ?_)
    refine pm_iload_n dX7_fails_13 rfl ?_
    subst hQ9
    refine pm_zret dX7_fails_14 hso ?_
    exact ⟨rfl, hm10⟩
  · skip
    have h9 : (if so = 0 then 0 else k) = k := if_neg h2
    refine pm_iload_n dX7_fails_5 rfl ?_
    refine pm_goto (tgt := 10) dX7_fails_6 (by decide) ?_
    try rw [show Value.int 0 = Value.int (nI (if so = 0 then 0 else k)) from by rw [h9]; rfl]
    try rw [show Value.int (nI k) :: Value.ref (A 50) :: [] = Value.int (nI (if so = 0 then 0 else k)) :: Value.ref (A 50) :: [] from by rw [h9]]
    refine pm_p_Model_thrown hm.1 pm_f_X7_102 dX7_fails_10 ?_
    refine mm_gen (hm.th (g := 390) rfl) (fun S10 hm10 => ?_)
    refine pm_iload_n dX7_fails_13 rfl ?_
    subst hQ9
    refine pm_zret dX7_fails_14 hso ?_
    exact ⟨rfl, hm10⟩

set_option maxHeartbeats 4000000 in
set_option maxRecDepth 100000 in
theorem c_X7_within (G : pm_G) (l : Launch) (bs : Nat) (v a b : Int32) (S : pm_S)  : pm_M G l bs yX7_within cX7_within 3 (some .boolean) 0 0 0 [.int v, .int a, .int b] S (pm_qi (fun x S2 => x = (if a ≤ v ∧ v ≤ b then 1 else 0) ∧ S2 = S)) := by
  refine pm_Mz (L := [.int v, .int a, .int b]) (by decide +kernel) rfl (pm_en_1 rfl (pm_en_1 rfl (pm_en_1 rfl (pm_en_0 rfl)))) ?_
  generalize hQ9 : pm_xz (fun x S2 => x = (if a ≤ v ∧ v ≤ b then 1 else 0) ∧ S2 = S) = Q9
  refine pm_iload_n dX7_within_0 rfl ?_
  refine pm_iload_n dX7_within_1 rfl ?_
  refine pm_icmp_lt (tgt := 14) dX7_within_2 (by decide) (fun h2 => ?_) (fun h2 => ?_)
  · skip
    have h9 : ¬ (a ≤ v ∧ v ≤ b) := fun z => Int32.not_le.mpr h2 z.1
    refine pm_iconst (v := 0) dX7_within_14 (by decide) ?_
    subst hQ9
    refine pm_zret dX7_within_15 (by first | exact Or.inl rfl | exact Or.inr rfl | assumption) ?_
    first
    | exact ⟨(if_neg h9).symm, rfl⟩
    | exact ⟨(if_pos h9).symm, rfl⟩
  · skip
    have g1 : a ≤ v := Int32.not_lt.mp h2
    refine pm_iload_n dX7_within_5 rfl ?_
    refine pm_iload_n dX7_within_6 rfl ?_
    refine pm_icmp_gt (tgt := 14) dX7_within_7 (by decide) (fun h7 => ?_) (fun h7 => ?_)
    · skip
      have h9 : ¬ (a ≤ v ∧ v ≤ b) := fun z => Int32.not_le.mpr h7 z.2
      refine pm_iconst (v := 0) dX7_within_14 (by decide) ?_
      subst hQ9
      refine pm_zret dX7_within_15 (by first | exact Or.inl rfl | exact Or.inr rfl | assumption) ?_
      first
      | exact ⟨(if_neg h9).symm, rfl⟩
      | exact ⟨(if_pos h9).symm, rfl⟩
    · skip
      have h9 : a ≤ v ∧ v ≤ b := ⟨g1, Int32.not_lt.mp h7⟩
      refine pm_iconst (v := 1) dX7_within_10 (by decide) ?_
      refine pm_goto (tgt := 15) dX7_within_11 (by decide) ?_
      subst hQ9
      refine pm_zret dX7_within_15 (by first | exact Or.inl rfl | exact Or.inr rfl | assumption) ?_
      first
      | exact ⟨(if_neg h9).symm, rfl⟩
      | exact ⟨(if_pos h9).symm, rfl⟩

set_option maxHeartbeats 4000000 in
set_option maxRecDepth 100000 in
theorem c_X7_mod (G : pm_G) (l : Launch) (bs : Nat) (v : Int32) (b : Nat) (S : pm_S) (h0 : 0 < b) (hb : b < 2 ^ 31) : pm_M G l bs yX7_mod cX7_mod 3 (some .int) 0 0 0 [.int v, .int (nI b)] S (pm_qi (fun x S2 => x = nI (pm_mod v b) ∧ S2 = S)) := by
  refine pm_Mi (L := [.int v, .int (nI b), pm_u]) (by decide +kernel) rfl (pm_en_1 rfl (pm_en_1 rfl (pm_en_0 rfl))) ?_
  generalize hQ9 : pm_xi (fun x S2 => x = nI (pm_mod v b) ∧ S2 = S) = Q9
  refine pm_iload_n dX7_mod_0 rfl ?_
  refine pm_iload_n dX7_mod_1 rfl ?_
  refine pm_irem dX7_mod_2 (nI_ne0 h0 hb) ?_
  obtain ⟨y, hy⟩ : ∃ y, y = v - v / nI b * nI b := ⟨_, rfl⟩
  rw [← hy]
  have hm := pm_mod_of (x := v) (y := y) h0 hb (by rw [hy]; exact pm_rem v h0 hb)
  refine pm_istn dX7_mod_3 (i := 2) rfl (by decide) ?_
  dsimp only [List.set]
  refine pm_iload_n dX7_mod_4 rfl ?_
  refine pm_if_ge (tgt := 14) dX7_mod_5 (by decide) (fun h5 => ?_) (fun h5 => ?_)
  · skip
    have h9 : ¬ y < 0 := Int32.not_lt.mpr h5
    refine pm_iload_n dX7_mod_14 rfl ?_
    subst hQ9
    refine pm_iret dX7_mod_15 ?_
    refine ⟨?_, rfl⟩
    first | exact hm.1 h9 | exact hm.2 h9
  · skip
    have h9 : y < 0 := Int32.not_le.mp h5
    refine pm_iload_n dX7_mod_8 rfl ?_
    refine pm_iload_n dX7_mod_9 rfl ?_
    refine pm_iadd dX7_mod_10 ?_
    refine pm_goto (tgt := 15) dX7_mod_11 (by decide) ?_
    subst hQ9
    refine pm_iret dX7_mod_15 ?_
    refine ⟨?_, rfl⟩
    first | exact hm.1 h9 | exact hm.2 h9

theorem sl_set {M : pm_N} {t : Nat} {a b : Int32} : sl (mx (mx (mx M 1 t 2) 0 (95 * t) a) 0 (95 * t + 1) b) t [a, b] := by
  refine ⟨show 2 ≤ 95 from by decide, ?_, fun k hk => ?_⟩
  · rw [mx_o (by decide), mx_o (by decide), mx_s]; rfl
  · match k, hk with
    | 0, _ => rw [mx_k (by omega)]; exact mx_s
    | 1, _ => exact mx_s
theorem mT_set {M : pm_N} {t : Nat} {a b : Int32} : mT M (mx (mx (mx M 1 t 2) 0 (95 * t) a) 0 (95 * t + 1) b) t := by
  refine ⟨fun s k h1 h2 => ?_, rfl⟩
  rw [mx_1, if_neg (fun z => by omega), mx_1, if_neg (fun z => by omega), mx_1, if_neg h1]
set_option maxHeartbeats 4000000 in
set_option maxRecDepth 100000 in
theorem c_X7_set (G : pm_G) (l : Launch) (bs : Nat) (A : Nat → Nat) (E : pm_S) (M : pm_N) (t : Nat) (a b : Int32) (S : pm_S) (hm : pm_MX M S A E) (ht : t < 2945) : pm_M G l bs yX7_set cX7_set 4 none 0 0 0 [.ref (A 50), .int (nI t), .int a, .int b] S (pm_qv (fun S2 => ∃ M2, pm_MX M2 S2 A E ∧ mT M M2 t ∧ sl M2 t [a, b])) := by
  refine pm_Mv (L := [.ref (A 50), .int (nI t), .int a, .int b]) false (by decide +kernel) (fun h => by cases h) rfl (pm_en_1 rfl (pm_en_1 rfl (pm_en_1 rfl (pm_en_1 rfl (pm_en_0 rfl))))) ?_
  generalize hQ9 : pm_xv (fun S2 => ∃ M2, pm_MX M2 S2 A E ∧ mT M M2 t ∧ sl M2 t [a, b]) = Q9
  refine pm_aload_n dX7_set_0 rfl ?_
  refine pm_g_Model_sizes hm.1 pm_f_X7_14 (hm.2.1 1 (by decide)).1 dX7_set_1 ?_
  refine pm_iload_n dX7_set_4 rfl ?_
  refine pm_iconst (v := 2) dX7_set_5 (by decide) ?_
  refine mm_iastore (n := _) hm (by decide) rfl (by show _ < 2945; omega) dX7_set_6 (fun S6 hm6 => ?_)
  refine pm_aload_n dX7_set_7 rfl ?_
  refine pm_g_Model_told hm6.1 pm_f_X7_8 (hm6.2.1 0 (by decide)).1 dX7_set_8 ?_
  refine pm_bipush (v := 95) dX7_set_11 (by decide) ?_
  refine pm_iload_n dX7_set_13 rfl ?_
  refine pm_imul dX7_set_14 ?_
  refine pm_iload_n dX7_set_15 rfl ?_
  refine mm_iastore (n := _) hm6 (by decide) ix95b (by show _ < 279775; omega) dX7_set_16 (fun S16 hm16 => ?_)
  refine pm_aload_n dX7_set_17 rfl ?_
  refine pm_g_Model_told hm16.1 pm_f_X7_8 (hm16.2.1 0 (by decide)).1 dX7_set_18 ?_
  refine pm_bipush (v := 95) dX7_set_21 (by decide) ?_
  refine pm_iload_n dX7_set_23 rfl ?_
  refine pm_imul dX7_set_24 ?_
  refine pm_iconst (v := 1) dX7_set_25 (by decide) ?_
  refine pm_iadd dX7_set_26 ?_
  refine pm_iload_n dX7_set_27 rfl ?_
  refine mm_iastore (n := _) hm16 (by decide) (show (95 : Int32) * nI t + 1 = nI (95 * t + 1) from by rw [ix95b, nI_1]) (by show _ < 279775; omega) dX7_set_28 (fun S28 hm28 => ?_)
  subst hQ9
  refine pm_vret dX7_set_29 ?_
  exact ⟨_, hm28, mT_set, sl_set⟩

set_option maxHeartbeats 4000000 in
set_option maxRecDepth 100000 in
theorem c_X7_kindOf (G : pm_G) (l : Launch) (bs : Nat) (A : Nat → Nat) (E : pm_S) (M : pm_N) (t : Nat) (S : pm_S) (hm : pm_MX M S A E) (ht : t < 2945) : pm_M G l bs yX7_kindOf cX7_kindOf 2 (some .int) 0 0 0 [.ref (A 50), .int (nI t)] S (pm_qi (fun x S2 => x = M.1 0 (95 * t) ∧ S2 = S)) := by
  refine pm_Mi (L := [.ref (A 50), .int (nI t)]) (by decide +kernel) rfl (pm_en_1 rfl (pm_en_1 rfl (pm_en_0 rfl))) ?_
  generalize hQ9 : pm_xi (fun x S2 => x = M.1 0 (95 * t) ∧ S2 = S) = Q9
  refine pm_aload_n dX7_kindOf_0 rfl ?_
  refine pm_g_Model_told hm.1 pm_f_X7_8 (hm.2.1 0 (by decide)).1 dX7_kindOf_1 ?_
  refine pm_bipush (v := 95) dX7_kindOf_4 (by decide) ?_
  refine pm_iload_n dX7_kindOf_6 rfl ?_
  refine pm_imul dX7_kindOf_7 ?_
  refine mm_iaload (n := _) hm (by decide) ix95b (by show _ < 279775; omega) dX7_kindOf_8 ?_
  subst hQ9
  refine pm_iret dX7_kindOf_9 ?_
  exact ⟨rfl, rfl⟩

set_option maxHeartbeats 4000000 in
set_option maxRecDepth 100000 in
theorem c_X7_valueOf (G : pm_G) (l : Launch) (bs : Nat) (A : Nat → Nat) (E : pm_S) (M : pm_N) (t : Nat) (S : pm_S) (hm : pm_MX M S A E) (ht : t < 2945) : pm_M G l bs yX7_valueOf cX7_valueOf 2 (some .int) 0 0 0 [.ref (A 50), .int (nI t)] S (pm_qi (fun x S2 => x = M.1 0 (95 * t + 1) ∧ S2 = S)) := by
  refine pm_Mi (L := [.ref (A 50), .int (nI t)]) (by decide +kernel) rfl (pm_en_1 rfl (pm_en_1 rfl (pm_en_0 rfl))) ?_
  generalize hQ9 : pm_xi (fun x S2 => x = M.1 0 (95 * t + 1) ∧ S2 = S) = Q9
  refine pm_aload_n dX7_valueOf_0 rfl ?_
  refine pm_g_Model_told hm.1 pm_f_X7_8 (hm.2.1 0 (by decide)).1 dX7_valueOf_1 ?_
  refine pm_bipush (v := 95) dX7_valueOf_4 (by decide) ?_
  refine pm_iload_n dX7_valueOf_6 rfl ?_
  refine pm_imul dX7_valueOf_7 ?_
  refine pm_iconst (v := 1) dX7_valueOf_8 (by decide) ?_
  refine pm_iadd dX7_valueOf_9 ?_
  refine mm_iaload (n := _) hm (by decide) (show (95 : Int32) * nI t + 1 = nI (95 * t + 1) from by rw [ix95b, nI_1]) (by show _ < 279775; omega) dX7_valueOf_10 ?_
  subst hQ9
  refine pm_iret dX7_valueOf_11 ?_
  exact ⟨rfl, rfl⟩

set_option maxHeartbeats 4000000 in
set_option maxRecDepth 100000 in
theorem c_X7_is (G : pm_G) (l : Launch) (bs : Nat) (A : Nat → Nat) (E : pm_S) (M : pm_N) (t : Nat) (k : Int32) (S : pm_S) (hm : pm_MX M S A E) (ht : t < 2945) : pm_M G l bs yX7_is cX7_is 3 (some .boolean) 1 0 0 [.ref (A 50), .int (nI t), .int k] S (pm_qi (fun x S2 => x = (if M.1 0 (95 * t) = k then 1 else 0) ∧ S2 = S)) := by
  refine pm_Mz (L := [.ref (A 50), .int (nI t), .int k]) (by decide +kernel) rfl (pm_en_1 rfl (pm_en_1 rfl (pm_en_1 rfl (pm_en_0 rfl)))) ?_
  generalize hQ9 : pm_xz (fun x S2 => x = (if M.1 0 (95 * t) = k then 1 else 0) ∧ S2 = S) = Q9
  refine pm_aload_n dX7_is_0 rfl ?_
  refine pm_iload_n dX7_is_1 rfl ?_
  refine pm_vi (c_X7_kindOf G l bs A E M t _ hm ht) pm_y_X7_kindOf pm_v_X7_kindOf pm_m_X7_106 (c := 7) (r := (RX7, TX7, 41)) rfl rfl hm.1 dX7_is_2 rfl rfl (by decide) (Nat.le_of_ble_eq_true rfl) (fun x2 S2 h2 => ?_)
  obtain ⟨rfl, rfl⟩ := h2
  refine pm_iload_n dX7_is_5 rfl ?_
  refine pm_icmp_ne (tgt := 13) dX7_is_6 (by decide) (fun h6 => ?_) (fun h6 => ?_)
  · skip
    refine pm_iconst (v := 0) dX7_is_13 (by decide) ?_
    subst hQ9
    refine pm_zret dX7_is_14 (by first | exact Or.inl rfl | exact Or.inr rfl | assumption) ?_
    first
    | exact ⟨(if_neg h6).symm, rfl⟩
    | exact ⟨(if_pos h6).symm, rfl⟩
  · skip
    refine pm_iconst (v := 1) dX7_is_9 (by decide) ?_
    refine pm_goto (tgt := 14) dX7_is_10 (by decide) ?_
    subst hQ9
    refine pm_zret dX7_is_14 (by first | exact Or.inl rfl | exact Or.inr rfl | assumption) ?_
    first
    | exact ⟨(if_neg h6).symm, rfl⟩
    | exact ⟨(if_pos h6).symm, rfl⟩

set_option maxHeartbeats 4000000 in
set_option maxRecDepth 100000 in
theorem c_X7_ends (G : pm_G) (l : Launch) (bs : Nat) (A : Nat → Nat) (E : pm_S) (M : pm_N) (t n : Nat) (S : pm_S) (hm : pm_MX M S A E) (ht : t < 2945) (hs : M.1 1 t = nI n) (hn : n ≤ 95) : pm_M G l bs yX7_ends cX7_ends 2 (some .int) 0 0 0 [.ref (A 50), .int (nI t)] S (pm_qi (fun x S2 => x = nI ((n + 1) / 3) ∧ S2 = S)) := by
  refine pm_Mi (L := [.ref (A 50), .int (nI t)]) (by decide +kernel) rfl (pm_en_1 rfl (pm_en_1 rfl (pm_en_0 rfl))) ?_
  generalize hQ9 : pm_xi (fun x S2 => x = nI ((n + 1) / 3) ∧ S2 = S) = Q9
  refine pm_aload_n dX7_ends_0 rfl ?_
  refine pm_g_Model_sizes hm.1 pm_f_X7_14 (hm.2.1 1 (by decide)).1 dX7_ends_1 ?_
  refine pm_iload_n dX7_ends_4 rfl ?_
  refine mm_iaload (n := _) hm (by decide) rfl (by show _ < 2945; omega) dX7_ends_5 ?_
  refine pm_iconst (v := 1) dX7_ends_6 (by decide) ?_
  refine pm_iadd dX7_ends_7 ?_
  refine pm_iconst (v := 3) dX7_ends_8 (by decide) ?_
  rw [hs, nI_1]
  refine pm_idiv dX7_ends_9 (by decide) ?_
  rw [show (3 : Int32) = nI 3 from rfl, pk_div (by omega) (by decide) (by decide)]
  subst hQ9
  refine pm_iret dX7_ends_10 ?_
  exact ⟨rfl, rfl⟩

set_option maxHeartbeats 4000000 in
set_option maxRecDepth 100000 in
theorem c_X7_isAtom (G : pm_G) (l : Launch) (bs : Nat) (A : Nat → Nat) (E : pm_S) (M : pm_N) (t : Nat) (a : Int32) (S : pm_S) (hm : pm_MX M S A E) (ht : t < 2945) : pm_M G l bs yX7_isAtom cX7_isAtom 3 (some .boolean) 2 0 0 [.ref (A 50), .int (nI t), .int a] S (pm_qi (fun x S2 => x = (if M.1 0 (95 * t) = 1 ∧ M.1 0 (95 * t + 1) = a then 1 else 0) ∧ S2 = S)) := by
  refine pm_Mz (L := [.ref (A 50), .int (nI t), .int a]) (by decide +kernel) rfl (pm_en_1 rfl (pm_en_1 rfl (pm_en_1 rfl (pm_en_0 rfl)))) ?_
  generalize hQ9 : pm_xz (fun x S2 => x = (if M.1 0 (95 * t) = 1 ∧ M.1 0 (95 * t + 1) = a then 1 else 0) ∧ S2 = S) = Q9
  refine pm_aload_n dX7_isAtom_0 rfl ?_
  refine pm_iload_n dX7_isAtom_1 rfl ?_
  refine pm_iconst (v := 1) dX7_isAtom_2 (by decide) ?_
  refine pm_vi (c_X7_is G l bs A E M t 1 _ hm ht) pm_y_X7_is pm_v_X7_is pm_m_X7_178 (c := 7) (r := (RX7, TX7, 41)) rfl rfl hm.1 dX7_isAtom_3 rfl rfl (by decide) (Nat.le_of_ble_eq_true rfl) (fun x3 S3 h3 => ?_)
  obtain ⟨rfl, rfl⟩ := h3
  refine pm_if_eq (tgt := 22) dX7_isAtom_6 (by decide) (fun h6 => ?_) (fun h6 => ?_)
  · skip
    have h9 : ¬ (M.1 0 (95 * t) = 1 ∧ M.1 0 (95 * t + 1) = a) := fun z => by rw [if_pos z.1] at h6; cases h6
    refine pm_iconst (v := 0) dX7_isAtom_22 (by decide) ?_
    subst hQ9
    refine pm_zret dX7_isAtom_23 (by first | exact Or.inl rfl | exact Or.inr rfl | assumption) ?_
    first
    | exact ⟨(if_neg h9).symm, rfl⟩
    | exact ⟨(if_pos h9).symm, rfl⟩
  · skip
    have g1 : M.1 0 (95 * t) = 1 := Classical.byContradiction (fun z => h6 (if_neg z))
    refine pm_aload_n dX7_isAtom_9 rfl ?_
    refine pm_iload_n dX7_isAtom_10 rfl ?_
    refine pm_vi (c_X7_valueOf G l bs A E M t _ hm ht) pm_y_X7_valueOf pm_v_X7_valueOf pm_m_X7_181 (c := 7) (r := (RX7, TX7, 41)) rfl rfl hm.1 dX7_isAtom_11 rfl rfl (by decide) (Nat.le_of_ble_eq_true rfl) (fun x11 S11 h11 => ?_)
    obtain ⟨rfl, rfl⟩ := h11
    refine pm_iload_n dX7_isAtom_14 rfl ?_
    refine pm_icmp_ne (tgt := 22) dX7_isAtom_15 (by decide) (fun h15 => ?_) (fun h15 => ?_)
    · skip
      have h9 : ¬ (M.1 0 (95 * t) = 1 ∧ M.1 0 (95 * t + 1) = a) := fun z => h15 z.2
      refine pm_iconst (v := 0) dX7_isAtom_22 (by decide) ?_
      subst hQ9
      refine pm_zret dX7_isAtom_23 (by first | exact Or.inl rfl | exact Or.inr rfl | assumption) ?_
      first
      | exact ⟨(if_neg h9).symm, rfl⟩
      | exact ⟨(if_pos h9).symm, rfl⟩
    · skip
      have h9 : M.1 0 (95 * t) = 1 ∧ M.1 0 (95 * t + 1) = a := ⟨g1, h15⟩
      refine pm_iconst (v := 1) dX7_isAtom_18 (by decide) ?_
      refine pm_goto (tgt := 23) dX7_isAtom_19 (by decide) ?_
      subst hQ9
      refine pm_zret dX7_isAtom_23 (by first | exact Or.inl rfl | exact Or.inr rfl | assumption) ?_
      first
      | exact ⟨(if_neg h9).symm, rfl⟩
      | exact ⟨(if_pos h9).symm, rfl⟩

set_option maxHeartbeats 4000000 in
set_option maxRecDepth 100000 in
theorem c_X7_numberOf (G : pm_G) (l : Launch) (bs : Nat) (A : Nat → Nat) (E : pm_S) (M : pm_N) (t : Nat) (w : List Int32) (i : Int32) (S : pm_S) (hm : pm_MX M S A E) (ht : t < 2945) (hs : sl M t w) : pm_M G l bs yX7_numberOf cX7_numberOf 3 (some .int) 0 0 0 [.ref (A 50), .int (nI t), .int i] S (pm_qi (fun x S2 => x = tnum w i ∧ S2 = S)) := by
  have hl := hs.1
  refine pm_Mi (L := [.ref (A 50), .int (nI t), .int i]) (by decide +kernel) rfl (pm_en_1 rfl (pm_en_1 rfl (pm_en_1 rfl (pm_en_0 rfl)))) ?_
  generalize hQ9 : pm_xi (fun x S2 => x = tnum w i ∧ S2 = S) = Q9
  refine pm_iload_n dX7_numberOf_0 rfl ?_
  refine pm_if_lt (tgt := 28) dX7_numberOf_1 (by decide) (fun h1 => ?_) (fun h1 => ?_)
  · skip
    have h9 : ¬ (0 ≤ i ∧ i.toInt < w.length) := fun z => Int32.not_le.mpr h1 z.1
    refine pm_iconst (v := (-1)) dX7_numberOf_28 (by decide) ?_
    subst hQ9
    refine pm_iret dX7_numberOf_29 ?_
    first
    | exact ⟨(if_neg h9).symm, rfl⟩
    | exact ⟨by unfold tnum; rw [if_pos h9, nI_toInt hj, Int.toNat_natCast], rfl⟩
  · skip
    have g1 : 0 ≤ i := Int32.not_lt.mp h1
    obtain ⟨j, hj, rfl⟩ := nI_of h1
    refine pm_iload_n dX7_numberOf_4 rfl ?_
    refine pm_aload_n dX7_numberOf_5 rfl ?_
    refine pm_g_Model_sizes hm.1 pm_f_X7_14 (hm.2.1 1 (by decide)).1 dX7_numberOf_6 ?_
    refine pm_iload_n dX7_numberOf_9 rfl ?_
    refine mm_iaload (n := _) hm (by decide) rfl (by show _ < 2945; omega) dX7_numberOf_10 ?_
    rw [hs.2.1]
    refine pm_icmp_ge (tgt := 28) dX7_numberOf_11 (by decide) (fun h11 => ?_) (fun h11 => ?_)
    · skip
      have h9 : ¬ (0 ≤ nI j ∧ (nI j).toInt < w.length) := fun z => by have := (pm_nle (a := w.length) (b := j) hj (by omega)).mp h11; rw [nI_toInt hj] at z; omega
      refine pm_iconst (v := (-1)) dX7_numberOf_28 (by decide) ?_
      subst hQ9
      refine pm_iret dX7_numberOf_29 ?_
      first
      | exact ⟨(if_neg h9).symm, rfl⟩
      | exact ⟨by unfold tnum; rw [if_pos h9, nI_toInt hj, Int.toNat_natCast], rfl⟩
    · skip
      have g2 : j < w.length := by rcases Nat.lt_or_ge j w.length with q | q; exact q; exact absurd ((pm_nle (a := w.length) (b := j) hj (by omega)).mpr q) h11
      have h9 : 0 ≤ nI j ∧ (nI j).toInt < w.length := ⟨g1, by rw [nI_toInt hj]; omega⟩
      refine pm_aload_n dX7_numberOf_14 rfl ?_
      refine pm_g_Model_told hm.1 pm_f_X7_8 (hm.2.1 0 (by decide)).1 dX7_numberOf_15 ?_
      refine pm_bipush (v := 95) dX7_numberOf_18 (by decide) ?_
      refine pm_iload_n dX7_numberOf_20 rfl ?_
      refine pm_imul dX7_numberOf_21 ?_
      refine pm_iload_n dX7_numberOf_22 rfl ?_
      refine pm_iadd dX7_numberOf_23 ?_
      refine mm_iaload (n := _) hm (by decide) ix95 (by show _ < 279775; omega) dX7_numberOf_24 ?_
      rw [hs.2.2 j g2]
      refine pm_goto (tgt := 29) dX7_numberOf_25 (by decide) ?_
      subst hQ9
      refine pm_iret dX7_numberOf_29 ?_
      first
      | exact ⟨(if_neg h9).symm, rfl⟩
      | exact ⟨by unfold tnum; rw [if_pos h9, nI_toInt hj, Int.toNat_natCast], rfl⟩

