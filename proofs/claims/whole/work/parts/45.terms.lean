/-! terms as they are told: tS n m l: l is m terms, one behind another; of at most n processes -/
def tok (n : Nat) (k v : Int32) : Prop := k = 0 ∨ (k = 1 ∧ 0 ≤ v.toInt ∧ v.toInt < 100) ∨ (k = 2 ∧ 1 ≤ v.toInt ∧ v.toInt ≤ n)
def tS (n : Nat) : Nat → List Int32 → Prop
  | 0, [] => True
  | 0, _ :: _ => False
  | _ + 1, [] => False
  | _ + 1, [_] => False
  | m + 1, k :: v :: l => (k = -1 ∧ tS n (m + 2) (v :: l)) ∨ (k ≠ -1 ∧ tok n k v ∧ tS n m l)
def tW (n : Nat) (w : List Int32) : Prop := tS n 1 w ∧ w.length ≤ 95
theorem tok.mono {n m : Nat} {k v : Int32} (h : tok n k v) (hn : n ≤ m) : tok m k v := by
  rcases h with h | h | ⟨h1, h2, h3⟩
  · exact Or.inl h
  · exact Or.inr (Or.inl h)
  · exact Or.inr (Or.inr ⟨h1, h2, by omega⟩)
theorem tS.mono {n n2 : Nat} (hn : n ≤ n2) : ∀ (m : Nat) (l : List Int32), tS n m l → tS n2 m l
  | 0, [], _ => trivial
  | 0, _ :: _, h => h
  | _ + 1, [], h => h
  | _ + 1, [_], h => h
  | m + 1, k :: v :: l, h => by
    rcases h with ⟨h1, h2⟩ | ⟨h1, h2, h3⟩
    · exact Or.inl ⟨h1, tS.mono hn (m + 2) (v :: l) h2⟩
    · exact Or.inr ⟨h1, h2.mono hn, tS.mono hn m l h3⟩
theorem tW.mono {n n2 : Nat} {w : List Int32} (hn : n ≤ n2) (h : tW n w) : tW n2 w := ⟨tS.mono hn _ _ h.1, h.2⟩
theorem tS_app {n : Nat} : ∀ (m1 : Nat) (l1 : List Int32) (m2 : Nat) (l2 : List Int32), tS n m1 l1 → tS n m2 l2 → tS n (m1 + m2) (l1 ++ l2)
  | 0, [], m2, l2, _, h2 => by rw [Nat.zero_add]; exact h2
  | 0, _ :: _, _, _, h, _ => h.elim
  | _ + 1, [], _, _, h, _ => h.elim
  | _ + 1, [_], _, _, h, _ => h.elim
  | m + 1, k :: v :: l, m2, l2, h, h2 => by
    rw [show m + 1 + m2 = m + m2 + 1 by omega]
    rcases h with ⟨h1, h3⟩ | ⟨h1, h3, h4⟩
    · refine Or.inl ⟨h1, ?_⟩
      have := tS_app (m + 2) (v :: l) m2 l2 h3 h2
      rw [show m + 2 + m2 = m + m2 + 2 by omega] at this
      exact this
    · exact Or.inr ⟨h1, h3, tS_app m l m2 l2 h4 h2⟩
theorem tS_len {n : Nat} : ∀ (m : Nat) (l : List Int32), tS n m l → (l.length + m) % 3 = 0 ∧ 2 * m ≤ l.length
  | 0, [], _ => ⟨rfl, Nat.le_refl _⟩
  | 0, _ :: _, h => h.elim
  | _ + 1, [], h => h.elim
  | _ + 1, [_], h => h.elim
  | m + 1, k :: v :: l, h => by
    rcases h with ⟨h1, h3⟩ | ⟨h1, h3, h4⟩
    · have := tS_len (m + 2) (v :: l) h3
      simp only [List.length_cons] at this ⊢
      omega
    · have := tS_len m l h4
      simp only [List.length_cons] at this ⊢
      omega
theorem tW.len {n : Nat} {w : List Int32} (h : tW n w) : 2 ≤ w.length ∧ w.length ≤ 95 ∧ w.length % 3 = 2 := by
  have := tS_len 1 w h.1
  have := h.2
  omega
/-- a term: one end, or a pair -/
theorem tW.cases {n : Nat} {w : List Int32} (h : tW n w) : (∃ k v, w = [k, v] ∧ k ≠ -1 ∧ tok n k v) ∨ ∃ l, w = -1 :: l ∧ tS n 2 l := by
  obtain ⟨h, hl⟩ := h
  match w, h with
  | [], h => exact h.elim
  | [_], h => exact h.elim
  | k :: v :: l, h =>
    rcases h with ⟨h1, h3⟩ | ⟨h1, h3, h4⟩
    · exact Or.inr ⟨v :: l, by rw [h1], h3⟩
    · match l, h4 with
      | [], _ => exact Or.inl ⟨k, v, rfl, h1, h3⟩
      | _ :: _, h4 => exact h4.elim
theorem tW.one {n : Nat} {k v : Int32} (hk : k ≠ -1) (h : tok n k v) : tW n [k, v] := ⟨Or.inr ⟨hk, h, trivial⟩, show 2 ≤ 95 from by decide⟩
theorem tW.num {n : Nat} (v : Int32) : tW n [0, v] := tW.one (by decide) (Or.inl rfl)
theorem tW.atom {n : Nat} {v : Int32} (h0 : 0 ≤ v.toInt) (h : v.toInt < 100) : tW n [1, v] := tW.one (by decide) (Or.inr (Or.inl ⟨rfl, h0, h⟩))
theorem tW.pid {n p : Nat} (h : p < n) (hn : n ≤ 60) : tW n [2, nI (p + 1)] := tW.one (by decide) (Or.inr (Or.inr ⟨rfl, by rw [nI_toInt (by omega)]; omega, by rw [nI_toInt (by omega)]; omega⟩))
theorem tW.pair {n : Nat} {u w : List Int32} (hu : tW n u) (hw : tW n w) (hl : 1 + u.length + w.length ≤ 95) : tW n (-1 :: (u ++ w)) := by
  refine ⟨?_, by simp only [List.length_cons, List.length_append]; omega⟩
  have h := tS_app 1 u 1 w hu.1 hw.1
  have h2 := hu.len
  match hc : u ++ w, h with
  | [], _ => rw [List.append_eq_nil_iff] at hc; rw [hc.1] at h2; exact absurd h2.1 (by decide)
  | v :: l, h => exact Or.inl ⟨rfl, h⟩
/-- where the scan stops: behind the first o of o + m terms -/
theorem tl_e_at {n : Nat} : ∀ (l : List Int32) (o m f k : Nat) (w : List Int32), tS n (o + m) l → w.drop k = l → l.length ≤ f → ∃ l1 l2, l = l1 ++ l2 ∧ tS n o l1 ∧ tS n m l2 ∧ tl_e f w k o = k + l1.length
  | l, 0, m, f, k, w, h, hd, hf => ⟨[], l, rfl, trivial, by rw [Nat.zero_add] at h; exact h, by rw [tl_e_stop (by omega)]; rfl⟩
  | [], o + 1, m, f, k, w, h, hd, hf => by rw [show o + 1 + m = o + m + 1 by omega] at h; exact h.elim
  | [_], o + 1, m, f, k, w, h, hd, hf => by rw [show o + 1 + m = o + m + 1 by omega] at h; exact h.elim
  | x :: v :: l, o + 1, m, f, k, w, h, hd, hf => by
    rw [show o + 1 + m = o + m + 1 by omega] at h
    have hk : k < w.length := by
      have := congrArg List.length hd
      rw [List.length_drop] at this
      simp only [List.length_cons] at this
      omega
    have hx : w[k]? = some x := by
      have := congrArg (fun z : List Int32 => z[0]?) hd
      simpa using this
    have hd1 : w.drop (k + 1) = v :: l := by
      have := congrArg (List.drop 1) hd
      rw [List.drop_drop] at this
      simpa using this
    have hd2 : w.drop (k + 2) = l := by
      have := congrArg (List.drop 2) hd
      rw [List.drop_drop] at this
      simpa using this
    obtain ⟨f, rfl⟩ : ∃ f2, f = f2 + 1 := ⟨f - 1, by simp only [List.length_cons] at hf; omega⟩
    rw [tl_e, if_pos ⟨hk, by omega⟩, hx]
    rcases h with ⟨h1, h3⟩ | ⟨h1, h3, h4⟩
    · obtain ⟨l1, l2, a1, a2, a3, a4⟩ := tl_e_at (v :: l) (o + 2) m f (k + 1) w (by rw [show o + 2 + m = o + m + 2 by omega]; exact h3) hd1 (by simp only [List.length_cons] at hf ⊢; omega)
      refine ⟨x :: l1, l2, by rw [a1]; rfl, ?_, a3, ?_⟩
      · match l1, a2 with
        | [], a2 => exact a2.elim
        | y :: l1, a2 => exact Or.inl ⟨h1, a2⟩
      · rw [if_pos (by rw [h1]), a4, List.length_cons]
        omega
    · obtain ⟨l1, l2, a1, a2, a3, a4⟩ := tl_e_at l o m f (k + 2) w h4 hd2 (by simp only [List.length_cons] at hf; omega)
      refine ⟨x :: v :: l1, l2, by rw [a1]; rfl, Or.inr ⟨h1, h3, a2⟩, a3, ?_⟩
      rw [if_neg (fun z => h1 (Option.some.inj z)), show o + 1 - 1 = o by omega, a4]
      simp only [List.length_cons]
      omega
/-- the parts of a pair -/
theorem tW.split {n : Nat} {l : List Int32} (h : tW n (-1 :: l)) : ∃ u w, l = u ++ w ∧ tW n u ∧ tW n w ∧ tl_e 95 (-1 :: l) 1 1 = 1 + u.length := by
  have hl := h.2
  simp only [List.length_cons] at hl
  rcases h.cases with ⟨k, v, e, hk, -⟩ | ⟨l2, e, h2⟩
  · cases e; exact absurd rfl hk
  · cases e
    obtain ⟨u, w, a1, a2, a3, a4⟩ := tl_e_at l 1 1 95 1 (-1 :: l) h2 rfl (by omega)
    have := congrArg List.length a1
    rw [List.length_append] at this
    exact ⟨u, w, a1, ⟨a2, by omega⟩, ⟨a3, by omega⟩, a4⟩
theorem tW.k3 {n : Nat} {w : List Int32} (h : tW n w) : zKind w = 3 ↔ ∃ l, w = -1 :: l := by
  rcases h.cases with ⟨k, v, e, hk, ht⟩ | ⟨l2, e, h2⟩
  · subst e
    refine ⟨fun z => ?_, fun ⟨l, z⟩ => by cases z; exact absurd rfl hk⟩
    have z : pm_kd k = 3 := z
    unfold pm_kd at z
    rw [if_neg hk] at z
    subst z
    rcases ht with ht | ⟨ht, -⟩ | ⟨ht, -⟩ <;> exact absurd ht (by decide)
  · subst e
    exact ⟨fun _ => ⟨l2, rfl⟩, fun _ => rfl⟩
theorem tW.parts {n : Nat} {w : List Int32} (h : tW n w) (h3 : zKind w = 3) : tW n (zFirst w) ∧ tW n (zSecond w) ∧ 1 ≤ tl_e 95 w 1 1 ∧ tl_e 95 w 1 1 ≤ w.length := by
  obtain ⟨l, rfl⟩ := h.k3.mp h3
  obtain ⟨u, w, a1, a2, a3, a4⟩ := h.split
  subst a1
  unfold zFirst zSecond
  rw [a4]
  refine ⟨?_, ?_, by omega, by simp only [List.length_cons, List.length_append]; omega⟩
  · rw [show 1 + u.length - 1 = u.length by omega]
    simpa using a2
  · rw [show List.drop (1 + u.length) (-1 :: (u ++ w)) = w by rw [Nat.add_comm]; simp]
    simp only [List.length_cons, List.length_append]
    rw [List.take_of_length_le (by omega)]
    exact a3
/-- the messages of exits and downs -/
theorem tl_r_wf {n q : Nat} {u : List Int32} (h : tW n u) (hq : q < n) (hn : n ≤ 60) : tW n (tl_r [-1, 1, 6, -1, 2, nI (q + 1)] u) := by
  have k1 : ∀ v : List Int32, tS n 1 v → tS n 1 ([-1, 1, 6, -1, 2, nI (q + 1)] ++ v) := fun v hv => by
    have hp : tok n 2 (nI (q + 1)) := Or.inr (Or.inr ⟨rfl, by rw [nI_toInt (by omega)]; omega, by rw [nI_toInt (by omega)]; omega⟩)
    have ha : tok n 1 6 := Or.inr (Or.inl ⟨rfl, by decide, by decide⟩)
    exact Or.inl ⟨rfl, Or.inr ⟨by decide, ha, Or.inl ⟨rfl, Or.inr ⟨by decide, hp, hv⟩⟩⟩⟩
  unfold tl_r
  by_cases e : 95 < [-1, 1, 6, -1, 2, nI (q + 1)].length + u.length
  · rw [if_pos e]
    exact ⟨k1 [1, 5] (tW.atom (by decide) (by decide)).1, by simp⟩
  · rw [if_neg e]
    exact ⟨k1 u h.1, by rw [List.length_append]; omega⟩
theorem tl_r_wf2 {n q : Nat} {m : Int32} {u : List Int32} (h : tW n u) (hq : q < n) (hn : n ≤ 60) : tW n (tl_r [-1, 1, 7, -1, 0, m, -1, 2, nI (q + 1)] u) := by
  have k1 : ∀ v : List Int32, tS n 1 v → tS n 1 ([-1, 1, 7, -1, 0, m, -1, 2, nI (q + 1)] ++ v) := fun v hv => by
    have hp : tok n 2 (nI (q + 1)) := Or.inr (Or.inr ⟨rfl, by rw [nI_toInt (by omega)]; omega, by rw [nI_toInt (by omega)]; omega⟩)
    have ha : tok n 1 7 := Or.inr (Or.inl ⟨rfl, by decide, by decide⟩)
    exact Or.inl ⟨rfl, Or.inr ⟨by decide, ha, Or.inl ⟨rfl, Or.inr ⟨by decide, Or.inl rfl, Or.inl ⟨rfl, Or.inr ⟨by decide, hp, hv⟩⟩⟩⟩⟩⟩
  unfold tl_r
  by_cases e : 95 < [-1, 1, 7, -1, 0, m, -1, 2, nI (q + 1)].length + u.length
  · rw [if_pos e]
    exact ⟨k1 [1, 5] (tW.atom (by decide) (by decide)).1, by simp⟩
  · rw [if_neg e]
    exact ⟨k1 u h.1, by rw [List.length_append]; omega⟩
/-- of a pid, the process -/
theorem tW.pid_of {n : Nat} {w : List Int32} (h : tW n w) (h2 : zKind w = 2) : zPid w < n ∧ 1 ≤ (zVal w).toInt ∧ (zVal w).toInt ≤ n ∧ w = [2, zVal w] ∧ (n < 2 ^ 31 → zVal w = nI (zPid w + 1)) := by
  rcases h.cases with ⟨k, v, e, hk, ht⟩ | ⟨l2, e, h3⟩
  · subst e
    have z : pm_kd k = 2 := h2
    unfold pm_kd at z
    rw [if_neg hk] at z
    subst z
    have h4 : 1 ≤ v.toInt ∧ v.toInt ≤ n := by
      rcases ht with ht | ⟨ht, -⟩ | ⟨-, a, b⟩
      · exact absurd ht (by decide)
      · exact absurd ht (by decide)
      · exact ⟨a, b⟩
    have h5 : zVal [2, v] = v := rfl
    refine ⟨?_, h4.1, h4.2, rfl, fun hn => ?_⟩
    · unfold zPid
      rw [h5]
      omega
    · unfold zPid
      rw [h5]
      obtain ⟨j, hj, rfl⟩ := nI_of (x := v) (fun z => by rw [pm_lt0] at z; omega)
      rw [nI_toInt hj] at h4 ⊢
      congr 1
      omega
  · subst e
    cases h2
theorem tW.getK {n : Nat} {w : List Int32} (h : tW n w) : ∀ y : Int32, w[0]? = some y → y = -1 ∨ y = 0 ∨ y = 1 ∨ y = 2 := by
  intro y hy
  rcases h.cases with ⟨k, v, e, hk, ht⟩ | ⟨l2, e, h3⟩
  · subst e
    cases hy
    rcases ht with ht | ⟨ht, -⟩ | ⟨ht, -⟩
    · exact Or.inr (Or.inl ht)
    · exact Or.inr (Or.inr (Or.inl ht))
    · exact Or.inr (Or.inr (Or.inr ht))
  · subst e
    cases hy
    exact Or.inl rfl
