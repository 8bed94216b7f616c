/-! what always holds, behind words, slices, runs and passes of time -/
def zLf (Z W : az) : Prop := az_a Z 0 ≤ az_a W 0 ∧ zU Z ≤ zU W ∧ ∀ i, i = 4 ∨ i = 5 ∨ i = 6 → az_a W i = az_a Z i
theorem zLf.rf {Z : az} : zLf Z Z := ⟨Nat.le_refl _, Nat.le_refl _, fun _ _ => rfl⟩
theorem zLf.tr {Z W X : az} (h1 : zLf Z W) (h2 : zLf W X) : zLf Z X := ⟨Nat.le_trans h1.1 h2.1, Nat.le_trans h1.2.1 h2.2.1, fun i hi => (h2.2.2 i hi).trans (h1.2.2 i hi)⟩
theorem zLe.f {Z W : az} (h : zLe Z W) : zLf Z W := ⟨Nat.le_of_eq h.1.symm, h.2⟩
theorem zNew_U (Z : az) (a pr : Nat) : az_a (zNew Z a pr) 0 = az_a Z 0 + 1 ∧ zU (zNew Z a pr) = zU Z + 26 := by
  have e0 : az_a (zNew Z a pr) 0 = az_a Z 0 + 1 := rfl
  refine ⟨e0, ?_⟩
  have e : ∀ q, az_b (zNew Z a pr) 12 q = if q = az_a Z 0 then 0 else az_b Z 12 q := fun q => by
    unfold zNew zTurn
    rw [z_b_a, z_b_bne (by omega), z_b_n]
    simp
  unfold zU
  rw [e0]
  show zUk (zNew Z a pr) (az_a Z 0) + 26 + 2 * az_b (zNew Z a pr) 12 (az_a Z 0) = _
  rw [e, if_pos rfl, zUk_eq (Z := Z) _ (fun q hq => by rw [e, if_neg (by omega)])]
theorem zLf_new {Z : az} {a pr : Nat} : zLf Z (zNew Z a pr) := ⟨by rw [(zNew_U Z a pr).1]; omega, by rw [(zNew_U Z a pr).2]; omega, fun i hi => by rcases hi with rfl | rfl | rfl <;> rfl⟩
theorem zLe_b {Z : az} {i p v : Nat} (hi : i ≠ 12) : zLe Z (zs_b Z i p v) := zLe.of rfl (fun q => z_b_bne (by omega))
theorem zLe_t {Z : az} {i p k : Nat} {w : List Int32} : zLe Z (zs_t Z i p k w) := zLe.of rfl (fun _ => rfl)
theorem zLe_e {Z : az} {i p : Nat} {w : Option Nat} : zLe Z (zs_e Z i p w) := zLe.of rfl (fun _ => rfl)
theorem zLe_c {Z : az} {i p k v : Nat} : zLe Z (zs_c Z i p k v) := zLe.of rfl (fun _ => rfl)
theorem zLe_m {Z : az} {p : Nat} {g : Nat → List Int32} : zLe Z (zs_m Z p g) := zLe.of rfl (fun _ => rfl)
theorem zLe_a {Z : az} {i v : Nat} (hi : i ≠ 0 ∧ i ≠ 4 ∧ i ≠ 5 ∧ i ≠ 6) : zLe Z (zs_a Z i v) := zLe.of (by rw [z_a_a, if_neg (by omega)]) (fun _ => rfl) (fun j hj => by rw [z_a_a, if_neg (by omega)])
theorem zLe_print {Z : az} {w : List Int32} : zLe Z (zPrint w Z) := by
  obtain ⟨h1, h2, -⟩ := zPrint_get w Z
  exact zLe.of (by rw [h1, if_neg (by decide)]) (fun q => by rw [h2]) (fun i hi => by rw [h1, if_neg (by omega)])
theorem zLe_turn {Z : az} {p : Nat} : zLe Z (zTurn Z p) := (zLe_b (by decide)).tr (zLe_a (by decide))
theorem zLe_ready {Z : az} {p a : Nat} : zLe Z (zReady Z p a) := (((zLe_b (by decide)).tr (zLe_b (by decide))).tr zLe_e).tr zLe_turn
section ZM
variable {Z : az} {s : Nat}
theorem zI.print {w : List Int32} (h : zI s Z) (hw : w.length ≤ 95) (hP : az_a Z 9 + 95 ≤ 95 * az_a Z 5) : zI s (zPrint w Z) := by
  obtain ⟨z1, z2, z3, z4, z5, z6, z7, z8, z9⟩ := zPrint_get w Z
  obtain ⟨h1, h2, h3, h4, h5, h6, h7, h8, h9, h10, h11, h12⟩ := h
  have an : ∀ i, i ≠ 9 → az_a (zPrint w Z) i = az_a Z i := fun i hi => by rw [z1, if_neg hi]
  unfold zI iB iR iC iD iE iL iT iW iM iU iQ zCnt
  rw [z2, z3, z4, z5, z6, z7, an 0 (by decide), an 1 (by decide), an 2 (by decide), an 3 (by decide), an 4 (by decide), an 5 (by decide), an 6 (by decide), z1 9, if_pos rfl]
  exact ⟨h1, h2, h3, h4, h5, h6, h7, h8, h9, h10, ⟨h11.1, by omega⟩, h12⟩
/-- a message is dropped -/
theorem zI.drop {p : Nat} (h : zI s Z) (hp : p < az_a Z 0) (ht : az_b Z 10 p < az_b Z 9 p) : zI s (zs_b (zs_b (zs_m Z p (fun k => if k < az_b Z 10 p then az_t Z 2 p k else az_t Z 2 p (k + 1))) 9 p (az_b Z 9 p - 1)) 10 p 0) := by
  obtain ⟨h1, h2, h3, h4, h5, h6, h7, h8, h9, h10, h11, h12⟩ := id h
  have b9 : az_b Z 9 p ≤ 40 := h.b hp 9
  generalize hg : (fun k => if k < az_b Z 10 p then az_t Z 2 p k else az_t Z 2 p (k + 1)) = g
  have e : ∀ j q, j ≠ 9 → j ≠ 10 → az_b (zs_b (zs_b (zs_m Z p g) 9 p (az_b Z 9 p - 1)) 10 p 0) j q = az_b Z j q := fun j q a b => by rw [z_b_bne b, z_b_bne a, z_b_m]
  have ec : ∀ u k, zCnt (zs_b (zs_b (zs_m Z p g) 9 p (az_b Z 9 p - 1)) 10 p 0) u k = zCnt Z u k := fun u k => zCnt_eq k (fun q _ => e 1 q (by omega) (by omega))
  refine ⟨h1, iB.set (iB.set (Z := zs_m Z p g) h2 (fun _ => by show _ ≤ 40; omega)) (fun _ => by show 0 ≤ 40; omega), fun q hq => ?_, fun q hq => ?_, ⟨?_, h5.2.1, fun k hk => ?_⟩, ⟨h6.1, fun a q hq => ?_⟩, h7, fun q hq => ?_, h9, h10, ⟨?_, h11.2⟩, h12⟩
  · rw [e 12 q (by omega) (by omega), z_b_bne (i := 9) (by omega), z_b_b, z_b_bne (i := 10) (by omega), z_b_m, z_b_b, z_b_m]
    have := h3 q hq
    by_cases e2 : q = p
    · subst e2
      rw [if_pos ⟨rfl, rfl⟩, if_pos ⟨rfl, rfl⟩]
      omega
    · rw [if_neg (fun z => e2 z.2), if_neg (fun z => e2 z.2)]
      exact this
  · rw [e 7 q (by omega) (by omega), e 8 q (by omega) (by omega)]; exact h4 q hq
  · rw [ec]; exact h5.1
  · rw [e 1 _ (by omega) (by omega)]; exact h5.2.2 k hk
  · rw [e 1 _ (by omega) (by omega)]; exact h6.2 a q hq
  · obtain ⟨a, b, c⟩ := h8 q hq
    rw [z_b_bne (i := 9) (by omega), z_b_b, z_b_m]
    refine ⟨fun j hj => ?_, ?_, fun k hk => ?_⟩
    · rw [z_t_b, z_t_b, z_t_m, if_neg (by omega)]; exact a j hj
    · rw [z_t_b, z_t_b, z_t_m, if_neg (by omega)]; exact b
    · rw [z_t_b, z_t_b, z_t_m]
      by_cases e2 : 2 = 2 ∧ q = p
      · rw [if_pos e2, ← hg]
        rw [if_pos ⟨rfl, e2.2⟩] at hk
        dsimp only
        have c' := c
        rw [e2.2] at c'
        split
        · exact c' k (by omega)
        · exact c' (k + 1) (by omega)
      · rw [if_neg e2]
        rw [if_neg (fun z => e2 ⟨rfl, z.2⟩)] at hk
        exact c k hk
  · rw [ec]; exact h11.1
/-- a name -/
theorem zI.name {p a : Nat} (h : zI s Z) (hp : p < az_a Z 0) (h0 : az_b Z 1 p ≠ 2) (ha : a < 100) (e0 : az_e Z 0 p = none) (e2 : az_e Z 2 a = none) : zI s (zs_e (zs_e Z 0 p (some a)) 2 a (some p)) := by
  obtain ⟨h1, h2, h3, h4, h5, h6, h7, h8, h9, h10, h11, h12⟩ := id h
  refine ⟨h1, h2, h3, h4, h5, ⟨fun q hq b => ?_, fun b q => ?_⟩, h7, h8, h9, fun q hq u => ?_, h11, h12⟩
  · rw [z_e_e, if_neg (by omega), z_e_e, z_e_e, z_e_e, if_neg (c := 2 = 0 ∧ b = p) (by omega)]
    by_cases e : q = p
    · rw [if_pos ⟨rfl, e⟩]
      intro z
      cases z
      rw [if_pos ⟨rfl, rfl⟩, e]
    · rw [if_neg (fun z => e z.2)]
      intro z
      have z2 := h6.1 q hq b z
      rw [if_neg (fun z3 => by rw [z3.2, e2] at z2; cases z2)]
      exact z2
  · rw [z_e_e, z_e_e, if_neg (c := 2 = 0 ∧ b = p) (by omega), z_e_e, if_neg (c := 0 = 2 ∧ q = a) (by omega), z_e_e]
    by_cases e : b = a
    · rw [if_pos ⟨rfl, e⟩]
      intro z
      cases z
      rw [if_pos ⟨rfl, rfl⟩]
      exact ⟨by omega, hp, h0, by rw [e]⟩
    · rw [if_neg (fun z => e z.2)]
      intro z
      obtain ⟨q1, q2, q3, q4⟩ := h6.2 b q z
      rw [if_neg (fun z3 => by rw [z3.2, e0] at q4; cases q4)]
      exact ⟨q1, q2, q3, q4⟩
  · rw [z_e_e, if_neg (by omega), z_e_e, if_neg (by omega)]
    exact h10 q hq u
/-- it begins to wait -/
theorem zI.wait {p a b : Nat} {r : Option Nat} (h : zI (s + 1) Z) (hp : p < az_a Z 0) (h0 : az_b Z 1 p = 0) (ha : a < 300) (hb : b < 300) (hr : ∀ u, r = some u → u ≤ az_a Z 6 + 2147483648) : zI s (zs_e (zs_b (zs_b (zs_b Z 1 p 1) 3 p a) 4 p b) 1 p r) := by
  have g1 : zI s (zs_b Z 1 p 1) := h.st hp (Or.inr rfl) (by omega) (by simp)
  have g2 := (g1.sb (i := 3) (p := p) (v := a) (by omega) (fun _ => by show a ≤ 299; omega)).sb (i := 4) (p := p) (v := b) (by omega) (fun _ => by show b ≤ 299; omega)
  exact g2.e1 hr
theorem zI.at {p a : Nat} (h : zI s Z) (ha : a < 300) : zI s (zAt Z p a) := h.sb (i := 2) (by omega) (fun _ => by show a ≤ 299; omega)
theorem pm_mod_i {x : Int32} {d : Nat} (h : 0 < d) (hd : d ≤ 300) : (nI (pm_mod x d)).toInt = pm_mod x d := nI_toInt (by have := pm_mod_lt x h; omega)
end ZM
set_option maxHeartbeats 2000000 in
theorem zI.word {Z : az} {s p op : Nat} {a b c : Int32} (h : zI (s + 1) Z) (hp : p < az_a Z 0) (h0 : az_b Z 1 p = 0) (hP : az_a Z 9 + 95 ≤ 95 * az_a Z 5) : zI s (zWord Z p op a b c) ∧ zLf Z (zWord Z p op a b c) := by
  have hd := h.down (Nat.le_succ s)
  have n2 : az_b Z 1 p ≠ 2 := by omega
  have m8 : ∀ x, pm_mod x 8 < 8 := fun x => pm_mod_lt x (by decide)
  have m3 : ∀ x, pm_mod x 300 < 300 := fun x => pm_mod_lt x (by decide)
  have m1 : ∀ x, pm_mod x 100 < 100 := fun x => pm_mod_lt x (by decide)
  have rg : ∀ x, tW (az_a Z 0) (az_t Z 0 p (pm_mod x 8)) := fun x => hd.rg hp (m8 x)
  have bad : zI s (zBad Z p) ∧ zLf Z (zBad Z p) := ⟨hd.fails hp n2 (tW.atom (by decide) (by decide)), zLe_fails.f⟩
  have lim : zI s (zLim Z p) ∧ zLf Z (zLim Z p) := ⟨hd.fails hp n2 (tW.atom (by decide) (by decide)), zLe_fails.f⟩
  have t0 : ∀ j w, tW (az_a Z 0) w → zI s (zs_t Z 0 p j w) ∧ zLf Z (zs_t Z 0 p j w) := fun j w hw => ⟨hd.t0 hw, zLe_t.f⟩
  have at0 : ∀ x, x < 300 → zI s (zAt Z p x) ∧ zLf Z (zAt Z p x) := fun x hx => ⟨hd.at hx, (zLe_b (by decide)).f⟩
  have id0 : zI s Z ∧ zLf Z Z := ⟨hd, zLf.rf⟩
  have dies0 : zI s (zDies Z p [1, 0]) ∧ zLf Z (zDies Z p [1, 0]) := ⟨hd.dies hp n2 (tW.atom (by decide) (by decide)), zLe_dies.f⟩
  unfold zWord
  dsimp only
  split
  · exact dies0
  · exact t0 _ _ (tW.num _)
  · exact t0 _ _ (tW.atom (by rw [pm_mod_i (by decide) (by decide)]; omega) (by rw [pm_mod_i (by decide) (by decide)]; have := m1 b; omega))
  · exact t0 _ _ (rg b)
  · split
    · exact t0 _ _ (tW.num _)
    · exact bad
  · split
    · exact t0 _ _ (tW.num _)
    · exact bad
  · split
    · exact t0 _ _ (tW.num _)
    · exact bad
  · split
    · rename_i e
      exact t0 _ _ (tW.pair (rg b) (rg c) e)
    · exact lim
  · split
    · rename_i e
      exact t0 _ _ ((rg b).parts e).1
    · exact bad
  · split
    · rename_i e
      exact t0 _ _ ((rg b).parts e).2.1
    · exact bad
  · exact t0 _ _ (tW.num _)
  · exact at0 _ (m3 a)
  · split
    · exact at0 _ (m3 a)
    · exact id0
  · split
    · exact at0 _ (m3 a)
    · exact id0
  · split
    · exact at0 _ (m3 a)
    · exact id0
  · split
    · rename_i e
      exact ⟨(hd.push7 hp e (Nat.lt_succ_of_le (hd.b hp 2))).at (m3 a), ((zLe_c.tr (zLe_b (by decide))).tr (zLe_b (by decide))).f⟩
    · exact lim
  · split
    · exact dies0
    · rename_i e
      exact ⟨(hd.s7 (i := 7) (by omega) (by omega) hp).at ((hd.2.2.2.1 p hp).1 _ (by omega)), ((zLe_b (by decide)).tr (zLe_b (by decide))).f⟩
  · split
    · rename_i e
      exact ⟨hd.push8 hp e (m3 a), ((zLe_c.tr zLe_c).tr (zLe_b (by decide))).f⟩
    · exact lim
  · split
    · exact id0
    · exact ⟨hd.s7 (i := 8) (by omega) (by omega) hp, (zLe_b (by decide)).f⟩
  · exact ⟨hd.fails hp n2 (rg a), zLe_fails.f⟩
  · exact t0 _ _ (tW.pid hp h.1)
  · split
    · rename_i e
      have g := hd.new (a := pm_mod b 300) (pr := az_b Z 0 p) e (m3 b) (hd.b hp 0)
      have en : az_a (zNew Z (pm_mod b 300) (az_b Z 0 p)) 0 = az_a Z 0 + 1 := rfl
      refine ⟨((g.t0 ?_).t0 ?_).t0 ?_, zLf_new.tr ((zLe_t.tr zLe_t).tr zLe_t).f⟩
      · rw [en]; exact tW.pid (by omega) (by omega)
      · show tW (az_a Z 0 + 1) _; exact (rg c).mono (by omega)
      · show tW (az_a Z 0 + 1) _; exact tW.pid (by omega) (by omega)
    · exact lim
  · split
    · rename_i e
      have g := hd.new (a := pm_mod b 300) (pr := az_b Z 0 p) e (m3 b) (hd.b hp 0)
      have en : az_a (zNew Z (pm_mod b 300) (az_b Z 0 p)) 0 = az_a Z 0 + 1 := rfl
      refine ⟨(((g.t0 ?_).t0 ?_).lk ?_ ?_ ?_).t0 ?_, zLf_new.tr (((zLe_t.tr zLe_t).tr zLe_link).tr zLe_t).f⟩
      · rw [en]; exact tW.pid (by omega) (by omega)
      · show tW (az_a Z 0 + 1) _; exact (rg c).mono (by omega)
      · show p < az_a Z 0 + 1; omega
      · show az_a Z 0 < az_a Z 0 + 1; omega
      · omega
      · show tW (az_a Z 0 + 1) _; exact tW.pid (by omega) (by omega)
    · exact lim
  · split
    · rename_i e
      exact ⟨hd.comes ((rg a).pid_of e).1 (rg b), (zLe_comes ((rg a).pid_of e).1).f⟩
    · split
      · split
        · rename_i q hq
          have hqn := (hd.2.2.2.2.2.1.2 _ _ hq).2.1
          split
          · exact ⟨hd.comes hqn (rg b), (zLe_comes hqn).f⟩
          · exact id0
        · exact id0
      · exact bad
  · split
    · rename_i e
      exact t0 _ _ (hd.ms hp e)
    · exact at0 _ (m3 a)
  · split
    · rename_i e
      exact ⟨hd.drop hp e, ((zLe_m.tr (zLe_b (by decide))).tr (zLe_b (by decide))).f⟩
    · exact ⟨hd.s10 (Nat.zero_le _), (zLe_b (by decide)).f⟩
  · split
    · rename_i e
      exact ⟨hd.s10 e, (zLe_b (by decide)).f⟩
    · exact id0
  · split
    · exact at0 _ (m3 a)
    · exact ⟨h.wait hp h0 (m3 a) (m3 a) (fun u z => by cases z), ((((zLe_b (by decide)).tr (zLe_b (by decide))).tr (zLe_b (by decide))).tr zLe_e).f⟩
  · split
    · exact at0 _ (m3 a)
    · split
      · exact bad
      · split
        · exact ⟨(hd.s10 (Nat.zero_le _)).at (m3 c), ((zLe_b (by decide)).tr (zLe_b (by decide))).f⟩
        · refine ⟨h.wait hp h0 (m3 a) (m3 c) (fun u z => ?_), ((((zLe_b (by decide)).tr (zLe_b (by decide))).tr (zLe_b (by decide))).tr zLe_e).f⟩
          cases z
          have := (zVal (az_t Z 0 p (pm_mod b 8))).toInt_lt
          omega
  · split
    · exact bad
    · rename_i e
      have e2 := (rg a).pid_of (Classical.not_not.mp e)
      split
      · exact ⟨hd.exit hp e2.1 (tW.atom (by decide) (by decide)), (zLe_exit hp).f⟩
      · split
        · exact id0
        · rename_i e3
          exact ⟨hd.lk hp e2.1 (fun z => e3 z.symm), zLe_link.f⟩
  · split
    · exact bad
    · rename_i e
      have e2 := (rg a).pid_of (Classical.not_not.mp e)
      by_cases e3 : p = zPid (az_t Z 0 p (pm_mod a 8))
      · rw [← e3]
        have : zLink Z p p false = Z := by
          unfold zLink
          refine az_ext rfl rfl rfl rfl ?_ rfl rfl rfl
          funext q r
          rw [z_f_f, z_f_f]
          by_cases e4 : q = p ∧ r = p
          · rw [if_pos e4, e4.1, e4.2]
            cases hc : az_f Z p p with
            | false => rfl
            | true => exact absurd rfl (hd.2.2.2.2.2.2.1 p p hc).2.2.1
          · rw [if_neg e4, if_neg e4]
        rw [this]
        exact id0
      · exact ⟨hd.lk hp e2.1 e3, zLe_link.f⟩
  · split
    · exact bad
    · rename_i e
      have e2 := (rg b).pid_of (Classical.not_not.mp e)
      split
      · exact lim
      · rename_i e3
        have g : zI s (zs_t (zs_a Z 8 (az_a Z 8 + 1)) 0 p (pm_mod a 8) [0, nI (az_a Z 8 + 1)]) := (hd.sa (Or.inr rfl)).t0 (tW.num _)
        have gl : zLe Z (zs_t (zs_a Z 8 (az_a Z 8 + 1)) 0 p (pm_mod a 8) [0, nI (az_a Z 8 + 1)]) := (zLe_a (by decide)).tr zLe_t
        split
        · exact ⟨g.dwn hp e2.1 (tW.atom (by decide) (by decide)), (gl.tr (zLe_comes hp)).f⟩
        · refine ⟨g.sw (by rw [List.length_append]; show (az_w Z).length + 1 ≤ 200; omega) (fun t ht => ?_), (gl.tr zLe_w).f⟩
          rcases List.mem_append.mp ht with q | q
          · exact hd.2.2.2.2.2.2.2.2.1.2 t q
          · have : t = (az_a Z 8 + 1, p, zPid (az_t Z 0 p (pm_mod b 8))) := by simpa using q
            rw [this]
            exact ⟨hp, e2.1⟩
  · split
    · exact bad
    · rename_i e
      have e2 := (rg a).pid_of (Classical.not_not.mp e)
      exact ⟨hd.exit e2.1 hp (rg b), (zLe_exit e2.1).f⟩
  · exact ⟨hd.sb (i := 11) (by omega) (fun _ => by show _ ≤ 1; split <;> omega), (zLe_b (by decide)).f⟩
  · split
    · rename_i e
      exact ⟨hd.name hp n2 (m1 a) e.1 e.2, (zLe_e.tr zLe_e).f⟩
    · exact bad
  · split
    · rename_i q hq
      exact t0 _ _ (tW.pid (hd.2.2.2.2.2.1.2 _ _ hq).2.1 h.1)
    · exact t0 _ _ (tW.atom (by decide) (by decide))
  · exact ⟨hd.print (rg a).2 hP, zLe_print.f⟩
theorem zI.a5 {Z : az} {s : Nat} (h : zI s Z) (hq : az_a Z 5 + 1 < 16777216) : zI (s + 1) (zs_a Z 5 (az_a Z 5 + 1)) ∧ az_a (zs_a Z 5 (az_a Z 5 + 1)) 9 + 95 ≤ 95 * az_a (zs_a Z 5 (az_a Z 5 + 1)) 5 := by
  obtain ⟨h1, h2, h3, h4, h5, h6, h7, h8, h9, h10, h11, h12⟩ := h
  have k : az_a Z 9 ≤ 95 * az_a Z 5 := h11.2
  refine ⟨⟨h1, h2, h3, h4, h5, h6, h7, h8, h9, h10, ⟨?_, ?_⟩, h12.1, hq, h12.2.2⟩, ?_⟩
  · show az_a Z 3 + zCnt Z 1 (az_a Z 0) + (s + 1) ≤ az_a Z 5 + 1 + az_a Z 4 + az_a Z 0
    have := h11.1
    omega
  · show az_a Z 9 ≤ 95 * (az_a Z 5 + 1)
    omega
  · show az_a Z 9 + 95 ≤ 95 * (az_a Z 5 + 1)
    omega
theorem zI.a4 {Z : az} {s : Nat} (h : zI s Z) (hq : az_a Z 4 + 1 < 1048576) : zI (s + 1) (zs_a Z 4 (az_a Z 4 + 1)) := by
  obtain ⟨h1, h2, h3, h4, h5, h6, h7, h8, h9, h10, h11, h12⟩ := h
  refine ⟨h1, h2, h3, h4, h5, h6, h7, h8, h9, h10, ⟨?_, h11.2⟩, hq, h12.2⟩
  show az_a Z 3 + zCnt Z 1 (az_a Z 0) + (s + 1) ≤ az_a Z 5 + (az_a Z 4 + 1) + az_a Z 0
  have := h11.1
  omega
theorem zI.a6 {Z : az} {s n : Nat} (h : zI s Z) (hq : az_a Z 6 + n < 16777216) : zI s (zs_a Z 6 (az_a Z 6 + n)) := by
  obtain ⟨h1, h2, h3, h4, h5, h6, h7, h8, h9, h10, h11, h12⟩ := h
  refine ⟨h1, h2, h3, h4, h5, h6, h7, h8, h9, fun p hp u hu => ?_, h11, h12.1, h12.2.1, hq⟩
  have := h10 p hp u hu
  show u ≤ az_a Z 6 + n + 2147483648
  omega
/-- the state in which a word begins -/
def zTick (Z : az) (p : Nat) : az := zs_a (zs_b (zs_b Z 2 p ((az_b Z 2 p + 1) % 300)) 6 p (az_b Z 6 p + 1)) 5 (az_a Z 5 + 1)
theorem zI.tick {Z : az} {s p : Nat} (h : zI s Z) (hq : az_a Z 5 + 1 < 16777216) : zI (s + 1) (zTick Z p) ∧ az_a (zTick Z p) 9 + 95 ≤ 95 * az_a (zTick Z p) 5 :=
  ((h.sb (i := 2) (p := p) (v := (az_b Z 2 p + 1) % 300) (by omega) (fun _ => by show _ ≤ 299; omega)).sb (i := 6) (p := p) (v := az_b Z 6 p + 1) (by omega) (fun z => absurd rfl z)).a5 hq
theorem zTick_U (Z : az) (p : Nat) : zU (zTick Z p) = zU Z := zU_eq rfl (fun q _ => by unfold zTick; rw [z_b_a, z_b_bne (by decide), z_b_bne (by decide)])
theorem zTick_1 (Z : az) (p q : Nat) : az_b (zTick Z p) 1 q = az_b Z 1 q := by unfold zTick; rw [z_b_a, z_b_bne (by decide), z_b_bne (by decide)]
/-- the word itself, of a process that is ready -/
def zWd (Z : az) (p : Nat) : az := zWord (zTick Z p) p (az_x Z 0 (4 * az_b Z 2 p)).toInt.toNat (az_x Z 0 (4 * az_b Z 2 p + 1)) (az_x Z 0 (4 * az_b Z 2 p + 2)) (az_x Z 0 (4 * az_b Z 2 p + 3))
theorem zStep_eq (Z : az) (p : Nat) : zStep Z p = zSpread 60 (zWd Z p) := rfl
theorem zI.wd {Z : az} {s p : Nat} (h : zI s Z) (hp : p < az_a Z 0) (h0 : az_b Z 1 p = 0) (hq : az_a Z 5 + 1 < 16777216) : zI s (zWd Z p) ∧ zLf (zTick Z p) (zWd Z p) := by
  obtain ⟨h1, h2⟩ := h.tick (p := p) hq
  exact h1.word hp (by rw [zTick_1]; exact h0) h2
theorem zI.step {Z : az} {s p : Nat} (h : zI s Z) (hp : p < az_a Z 0) (h0 : az_b Z 1 p = 0) (hq : az_a Z 5 + 1 < 16777216) : zI s (zStep Z p) ∧ az_a Z 0 ≤ az_a (zStep Z p) 0 ∧ zU Z ≤ zU (zStep Z p) ∧ az_a (zStep Z p) 5 = az_a Z 5 + 1 ∧ az_a (zStep Z p) 4 = az_a Z 4 ∧ az_a (zStep Z p) 6 = az_a Z 6 := by
  rw [zStep_eq]
  obtain ⟨h1, h2⟩ := h.wd hp h0 hq
  obtain ⟨h3, h4⟩ := zI.spread 60 _ h1
  have h5 := h2.tr h4.f
  have e := zTick_U Z p
  exact ⟨h3, h5.1, by rw [← e]; exact h5.2.1, h5.2.2 5 (by omega), h5.2.2 4 (by omega), h5.2.2 6 (by omega)⟩
theorem zI.words {s : Nat} : ∀ (k : Nat) (Z : az) (p : Nat), zI s Z → p < az_a Z 0 → az_a Z 5 + k < 16777216 → zI s (zWords k Z p) ∧ az_a Z 0 ≤ az_a (zWords k Z p) 0 ∧ zU Z ≤ zU (zWords k Z p) ∧ az_a (zWords k Z p) 5 ≤ az_a Z 5 + k ∧ az_a (zWords k Z p) 4 = az_a Z 4 ∧ az_a (zWords k Z p) 6 = az_a Z 6
  | 0, Z, p, h, _, _ => ⟨h, Nat.le_refl _, Nat.le_refl _, Nat.le_refl _, rfl, rfl⟩
  | k + 1, Z, p, h, hp, hq => by
    rw [zWords]
    by_cases e : az_b Z 1 p = 0
    · rw [if_pos e]
      obtain ⟨a1, a2, a3, a4, a5, a6⟩ := h.step hp e (by omega)
      obtain ⟨b1, b2, b3, b4, b5, b6⟩ := zI.words k _ p a1 (by omega) (by omega)
      exact ⟨b1, by omega, by omega, by omega, by omega, by omega⟩
    · rw [if_neg e]
      exact ⟨h, Nat.le_refl _, Nat.le_refl _, by omega, rfl, rfl⟩
theorem zI.slice {Z : az} {s p : Nat} (h : zI s Z) (hp : p < az_a Z 0) (hq : az_a Z 5 + 12 < 16777216) (h4 : az_a Z 4 + 1 < 1048576) : zI s (zSlice Z p) ∧ az_a Z 0 ≤ az_a (zSlice Z p) 0 ∧ zU Z ≤ zU (zSlice Z p) ∧ az_a (zSlice Z p) 5 ≤ az_a Z 5 + 12 ∧ az_a (zSlice Z p) 4 = az_a Z 4 + 1 ∧ az_a (zSlice Z p) 6 = az_a Z 6 := by
  have g := h.a4 h4
  obtain ⟨b1, b2, b3, b4, b5, b6⟩ := zI.words 12 (zs_a Z 4 (az_a Z 4 + 1)) p g hp hq
  have eU : zU (zs_a Z 4 (az_a Z 4 + 1)) = zU Z := zU_eq rfl (fun _ _ => rfl)
  rw [eU] at b3
  unfold zSlice
  dsimp only
  generalize zWords 12 (zs_a Z 4 (az_a Z 4 + 1)) p = X at b1 b2 b3 b4 b5 b6 ⊢
  have b2 : az_a Z 0 ≤ az_a X 0 := b2
  have b4 : az_a X 5 ≤ az_a Z 5 + 12 := b4
  have b5 : az_a X 4 = az_a Z 4 + 1 := b5
  have b6 : az_a X 6 = az_a Z 6 := b6
  by_cases e : az_b X 1 p = 0
  · rw [if_pos e]
    have l := zLe_turn (Z := X) (p := p)
    exact ⟨b1.turn (by omega), by rw [l.1]; exact b2, Nat.le_trans b3 l.2.1, by rw [l.2.2 5 (by omega)]; exact b4, by rw [l.2.2 4 (by omega)]; exact b5, by rw [l.2.2 6 (by omega)]; exact b6⟩
  · rw [if_neg e]
    exact ⟨b1.down (by omega), b2, b3, b4, b5, b6⟩
/-- the one whose turn it is -/
theorem zNext_lt {Z : az} {g : Bool} {n : Nat} : ∀ (k p : Nat) (r : Option Nat), (∀ q, r = some q → q < n ∧ az_b Z 1 q = 0) → p + k ≤ n → ∀ q, zNext Z g k p r = some q → q < n ∧ az_b Z 1 q = 0
  | 0, _, r, h, _, q, e => h q e
  | k + 1, p, r, h, hk, q, e => by
    rw [zNext_s] at e
    refine zNext_lt k (p + 1) _ (fun q2 e2 => ?_) (by omega) q e
    by_cases e3 : az_b Z 1 p = 0
    · rw [if_pos e3] at e2
      cases r with
      | none => cases e2; exact ⟨by omega, e3⟩
      | some q3 =>
        dsimp only at e2
        split at e2
        · cases e2; exact ⟨by omega, e3⟩
        · exact h q2 e2
    · rw [if_neg e3] at e2
      exact h q2 e2
theorem zNextOf_lt {Z : az} {q : Nat} (h : zNextOf Z = some q) : q < az_a Z 0 ∧ az_b Z 1 q = 0 := zNext_lt (az_a Z 0) 0 none (fun q e => by cases e) (by omega) q h
theorem zI.run {s : Nat} : ∀ (k : Nat) (Z : az), zI s Z → az_a Z 5 + 12 * k < 16777216 → az_a Z 4 + k < 1048576 → zI s (zRun k Z).2 ∧ az_a Z 0 ≤ az_a (zRun k Z).2 0 ∧ zU Z ≤ zU (zRun k Z).2 ∧ az_a (zRun k Z).2 5 ≤ az_a Z 5 + 12 * k ∧ az_a (zRun k Z).2 4 ≤ az_a Z 4 + k ∧ az_a (zRun k Z).2 6 = az_a Z 6 ∧ (zRun k Z).1 ≤ k
  | 0, Z, h, _, _ => ⟨h, Nat.le_refl _, Nat.le_refl _, Nat.le_refl _, Nat.le_refl _, rfl, Nat.le_refl _⟩
  | k + 1, Z, h, hq, h4 => by
    rw [zRun]
    cases e : zNextOf Z with
    | none => exact ⟨h, Nat.le_refl _, Nat.le_refl _, by show az_a Z 5 ≤ _; omega, by show az_a Z 4 ≤ _; omega, rfl, by show 0 ≤ _; omega⟩
    | some p =>
      dsimp only
      obtain ⟨a1, a2, a3, a4, a5, a6⟩ := h.slice (zNextOf_lt e).1 (by omega) (by omega)
      obtain ⟨b1, b2, b3, b4, b5, b6, b7⟩ := zI.run k _ a1 (by omega) (by omega)
      exact ⟨b1, by omega, by omega, by omega, by omega, by omega, by omega⟩
theorem zDue_lt {Z : az} {n : Nat} : ∀ (k p : Nat) (r : Option Nat), (∀ q, r = some q → q < n ∧ az_b Z 1 q = 1) → p + k ≤ n → ∀ q, zDue Z k p r = some q → q < n ∧ az_b Z 1 q = 1
  | 0, _, r, h, _, q, e => h q e
  | k + 1, p, r, h, hk, q, e => by
    rw [zDue_s] at e
    refine zDue_lt k (p + 1) _ (fun q2 e2 => ?_) (by omega) q e
    cases hu : az_e Z 1 p with
    | none => rw [hu] at e2; exact h q2 e2
    | some u =>
      rw [hu] at e2
      dsimp only at e2
      split at e2
      · rename_i e3
        cases r with
        | none => cases e2; exact ⟨by omega, e3.1⟩
        | some q3 =>
          dsimp only at e2
          split at e2
          · cases e2; exact ⟨by omega, e3.1⟩
          · exact h q2 e2
      · exact h q2 e2
theorem zDueOf_lt {Z : az} {q : Nat} (h : zDue Z (az_a Z 0) 0 none = some q) : q < az_a Z 0 ∧ az_b Z 1 q = 1 := zDue_lt (az_a Z 0) 0 none (fun q e => by cases e) (by omega) q h
theorem zI.late {Z : az} {s p : Nat} (h : zI s Z) (hp : p < az_a Z 0) (hw : az_b Z 1 p = 1) : zI s (zReady (zs_b Z 10 p 0) p (az_b Z 4 p)) ∧ zLe Z (zReady (zs_b Z 10 p 0) p (az_b Z 4 p)) :=
  ⟨(h.s10 (Nat.zero_le _)).ready hp hw (Nat.lt_succ_of_le (h.b hp 4)), (zLe_b (by decide)).tr zLe_ready⟩
theorem zI.pass {s : Nat} : ∀ (k : Nat) (Z : az), zI s Z → zI s (zPass k Z).2 ∧ zLe Z (zPass k Z).2 ∧ (zPass k Z).1 ≤ k
  | 0, Z, h => ⟨h, zLe.rf, Nat.le_refl _⟩
  | k + 1, Z, h => by
    rw [zPass]
    cases e : zDue Z (az_a Z 0) 0 none with
    | none => exact ⟨h, zLe.rf, by show 0 ≤ _; omega⟩
    | some p =>
      dsimp only
      obtain ⟨a1, a2⟩ := h.late (zDueOf_lt e).1 (zDueOf_lt e).2
      obtain ⟨b1, b2, b3⟩ := zI.pass k _ a1
      exact ⟨b1, a2.tr b2, by omega⟩
