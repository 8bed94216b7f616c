/-! the law's entry -/
theorem lw_m3 : Cond.arrayOver (.object "ProcessMill$Proc") ∈ lw_tbl := by decide +kernel
theorem lw_m4 : Cond.arrayOver (.object "ProcessMill$Term") ∈ lw_tbl := by decide +kernel
theorem lw_cl {args : Array Value} {s : State} (hg : ∀ w ∈ pm_ws, w.before args s = true) : ∀ c : Nat, ∃ g : ClassId × (Nat → Nat), ∀ q : vw_C, vwCl[c]? = some q → u_Kn s q.1 q.2.1 q.2.2 g.1 g.2 := by
  obtain ⟨a0, b0, h0⟩ := u_known (n := 3) hg pm_in0 (hg _ pm_in_X0)
  obtain ⟨a1, b1, h1⟩ := u_known (n := 16) hg pm_in1 (hg _ pm_in_X1)
  obtain ⟨a2, b2, h2⟩ := u_known (n := 2) hg pm_in2 (hg _ pm_in_X2)
  obtain ⟨a3, b3, h3⟩ := u_known (n := 2) hg pm_in3 (hg _ pm_in_X3)
  obtain ⟨a4, b4, h4⟩ := u_known (n := 5) hg pm_in4 (hg _ pm_in_X4)
  obtain ⟨a5, b5, h5⟩ := u_known (n := 5) hg pm_in5 (hg _ pm_in_X5)
  obtain ⟨a6, b6, h6⟩ := u_known (n := 16) hg pm_in6 (hg _ pm_in_X6)
  obtain ⟨a7, b7, h7⟩ := u_known (n := 41) hg pm_in7 (hg _ pm_in_X7)
  intro c
  match c with
  | 0 => exact ⟨(a0, b0), fun q hq => by cases hq; exact h0⟩
  | 1 => exact ⟨(a1, b1), fun q hq => by cases hq; exact h1⟩
  | 2 => exact ⟨(a2, b2), fun q hq => by cases hq; exact h2⟩
  | 3 => exact ⟨(a3, b3), fun q hq => by cases hq; exact h3⟩
  | 4 => exact ⟨(a4, b4), fun q hq => by cases hq; exact h4⟩
  | 5 => exact ⟨(a5, b5), fun q hq => by cases hq; exact h5⟩
  | 6 => exact ⟨(a6, b6), fun q hq => by cases hq; exact h6⟩
  | 7 => exact ⟨(a7, b7), fun q hq => by cases hq; exact h7⟩
  | c + 8 => exact ⟨(a0, b0), fun q hq => nomatch hq⟩
theorem lw_K0 {args : Array Value} {s : State} (hts : ∀ w ∈ lw_tbl, w.before args s = true) : ∃ G, pm_K G s := by
  have hg : ∀ w ∈ pm_ws, w.before args s = true := fun w hw => hts w (pm_ws_tbl hw)
  have hc := lw_cl hg
  obtain ⟨cI, kI, mI, i1, i2, i3⟩ := Cond.arrayClass_spec (hg _ pm_ac_int)
  obtain ⟨cZ, kZ, mZ, z1, z2, z3⟩ := Cond.arrayClass_spec (hg _ pm_ac_boolean)
  obtain ⟨cJ, kJ, mJ, j1, j2, j3⟩ := Cond.arrayClass_spec (hg _ pm_ac_long)
  obtain ⟨mP, cP, kP, p1, p2, p3, p4, p5⟩ := Cond.arrayOver_spec (hts _ lw_m3)
  obtain ⟨mT, cT, kT, t1, t2, t3, t4, t5⟩ := Cond.arrayOver_spec (hts _ lw_m4)
  refine ⟨((fun c => (Classical.choose (hc c)).1, fun c => (Classical.choose (hc c)).2), fun i => match i with | 0 => cI | 1 => cZ | 2 => cJ | 3 => cP | _ => cT), ⟨fun c q hq => Classical.choose_spec (hc c) q hq, fun k q hq => ?_⟩, fun w hw hn => va_Nw.of (pm_nest_on hn) (hts w hw), va_AO.of (hts _ lw_m3), va_AO.of (hts _ lw_m4)⟩
  match k with
  | 0 => cases hq; exact ⟨fun n z => ⟨fun k h => (by cases h), kI, i2, mI, i3⟩, i1⟩
  | 1 => cases hq; exact ⟨fun n z => ⟨fun k h => (by cases h), kZ, z2, mZ, z3⟩, z1⟩
  | 2 => cases hq; exact ⟨fun n z => ⟨fun k h => (by cases h), kJ, j2, mJ, j3⟩, j1⟩
  | 3 => cases hq; exact ⟨fun n z => ⟨fun k h => (by cases h), kP, p3, mP, p4⟩, kP, mP, p3, p4, p1, p5⟩
  | 4 => cases hq; exact ⟨fun n z => ⟨fun k h => (by cases h), kT, t3, mT, t4⟩, kT, mT, t3, t4, t1, t5⟩
  | k + 5 => nomatch hq
/-- the memory that tells of the script -/
def lw_S9 (L : Nat) (xs : Nat → Int32) : pm_S := (fun _ => 0, fun _ => L, fun _ _ => 0, fun _ _ => 0, fun _ _ => none, fun _ j => xs j, fun _ _ => 0, fun _ _ => none)
