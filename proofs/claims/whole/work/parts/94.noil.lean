/-! no place of the law's code holds what marks the script -/
set_option maxRecDepth 20000 in
theorem lw_no0 : ∀ i, i < 94 → decode cL_law (0 + i) ≠ .ok (.iload 0, 1) := by decide +kernel
set_option maxRecDepth 20000 in
theorem lw_no1 : ∀ i, i < 94 → decode cL_law (94 + i) ≠ .ok (.iload 0, 1) := by decide +kernel
set_option maxRecDepth 20000 in
theorem lw_no2 : ∀ i, i < 94 → decode cL_law (188 + i) ≠ .ok (.iload 0, 1) := by decide +kernel
set_option maxRecDepth 20000 in
theorem lw_no3 : ∀ i, i < 94 → decode cL_law (282 + i) ≠ .ok (.iload 0, 1) := by decide +kernel
set_option maxRecDepth 20000 in
theorem lw_no4 : ∀ i, i < 94 → decode cL_law (376 + i) ≠ .ok (.iload 0, 1) := by decide +kernel
set_option maxRecDepth 20000 in
theorem lw_no5 : ∀ i, i < 94 → decode cL_law (470 + i) ≠ .ok (.iload 0, 1) := by decide +kernel
set_option maxRecDepth 20000 in
theorem lw_no6 : ∀ i, i < 94 → decode cL_law (564 + i) ≠ .ok (.iload 0, 1) := by decide +kernel
set_option maxRecDepth 20000 in
theorem lw_no7 : ∀ i, i < 94 → decode cL_law (658 + i) ≠ .ok (.iload 0, 1) := by decide +kernel
theorem lw_cs : cL_law.size = 752 := by decide +kernel
theorem lw_noil : ∀ pc, pc < cL_law.size → decode cL_law pc ≠ .ok (.iload 0, 1) := by
  intro pc h
  rw [lw_cs] at h
  by_cases h0 : pc < 94
  · have e := lw_no0 (pc - 0) (by omega)
    rwa [show 0 + (pc - 0) = pc by omega] at e
  by_cases h1 : pc < 188
  · have e := lw_no1 (pc - 94) (by omega)
    rwa [show 94 + (pc - 94) = pc by omega] at e
  by_cases h2 : pc < 282
  · have e := lw_no2 (pc - 188) (by omega)
    rwa [show 188 + (pc - 188) = pc by omega] at e
  by_cases h3 : pc < 376
  · have e := lw_no3 (pc - 282) (by omega)
    rwa [show 282 + (pc - 282) = pc by omega] at e
  by_cases h4 : pc < 470
  · have e := lw_no4 (pc - 376) (by omega)
    rwa [show 376 + (pc - 376) = pc by omega] at e
  by_cases h5 : pc < 564
  · have e := lw_no5 (pc - 470) (by omega)
    rwa [show 470 + (pc - 470) = pc by omega] at e
  by_cases h6 : pc < 658
  · have e := lw_no6 (pc - 564) (by omega)
    rwa [show 564 + (pc - 564) = pc by omega] at e
  · have e := lw_no7 (pc - 658) (by omega)
    rwa [show 658 + (pc - 658) = pc by omega] at e
