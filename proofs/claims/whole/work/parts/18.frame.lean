/-! what a method may have changed; terms of the class -/
def pm_fr (S S' : pm_S) (F : Nat → Nat → Prop) (A : Nat → Prop) : Prop := pm_k S' = pm_k S ∧ pm_n S' = pm_n S ∧ (∀ g b, ¬ F g b → pm_i S' g b = pm_i S g b ∧ pm_j S' g b = pm_j S g b ∧ pm_p S' g b = pm_p S g b) ∧ (∀ b, ¬ A b → pm_x S' b = pm_x S b ∧ pm_y S' b = pm_y S b ∧ pm_z S' b = pm_z S b)
theorem pm_fr.rf {S : pm_S} {F : Nat → Nat → Prop} {A : Nat → Prop} : pm_fr S S F A := ⟨rfl, rfl, fun _ _ _ => ⟨rfl, rfl, rfl⟩, fun _ _ => ⟨rfl, rfl, rfl⟩⟩
theorem pm_fr.tr {S S1 S2 : pm_S} {F : Nat → Nat → Prop} {A : Nat → Prop} (h1 : pm_fr S S1 F A) (h2 : pm_fr S1 S2 F A) : pm_fr S S2 F A := by
  obtain ⟨a1, a2, a3, a4⟩ := h1
  obtain ⟨b1, b2, b3, b4⟩ := h2
  refine ⟨b1.trans a1, b2.trans a2, fun g b h => ?_, fun b h => ?_⟩
  · exact ⟨(b3 g b h).1.trans (a3 g b h).1, (b3 g b h).2.1.trans (a3 g b h).2.1, (b3 g b h).2.2.trans (a3 g b h).2.2⟩
  · exact ⟨(b4 b h).1.trans (a4 b h).1, (b4 b h).2.1.trans (a4 b h).2.1, (b4 b h).2.2.trans (a4 b h).2.2⟩
theorem pm_fr.mono {S S1 : pm_S} {F F' : Nat → Nat → Prop} {A A' : Nat → Prop} (h : pm_fr S S1 F A) (hF : ∀ g b, F g b → F' g b) (hA : ∀ b, A b → A' b) : pm_fr S S1 F' A' := ⟨h.1, h.2.1, fun g b q => h.2.2.1 g b (fun z => q (hF g b z)), fun b q => h.2.2.2 b (fun z => q (hA b z))⟩
theorem pm_fr_si {S : pm_S} {f a : Nat} {v : Int32} {F : Nat → Nat → Prop} {A : Nat → Prop} (h : F f a) : pm_fr S (pm_si S f a v) F A := ⟨rfl, rfl, fun g b q => ⟨by rw [pm_i_si, if_neg (fun z => q (by rw [z.1, z.2]; exact h))], rfl, rfl⟩, fun _ _ => ⟨rfl, rfl, rfl⟩⟩
theorem pm_fr_sj {S : pm_S} {f a : Nat} {v : Int64} {F : Nat → Nat → Prop} {A : Nat → Prop} (h : F f a) : pm_fr S (pm_sj S f a v) F A := ⟨rfl, rfl, fun g b q => ⟨rfl, by rw [pm_j_sj, if_neg (fun z => q (by rw [z.1, z.2]; exact h))], rfl⟩, fun _ _ => ⟨rfl, rfl, rfl⟩⟩
theorem pm_fr_sp {S : pm_S} {f a : Nat} {v : Option Nat} {F : Nat → Nat → Prop} {A : Nat → Prop} (h : F f a) : pm_fr S (pm_sp S f a v) F A := ⟨rfl, rfl, fun g b q => ⟨rfl, rfl, by rw [pm_p_sp, if_neg (fun z => q (by rw [z.1, z.2]; exact h))]⟩, fun _ _ => ⟨rfl, rfl, rfl⟩⟩
theorem pm_fr_sx {S : pm_S} {a i : Nat} {v : Int32} {F : Nat → Nat → Prop} {A : Nat → Prop} (h : A a) : pm_fr S (pm_sx S a i v) F A := ⟨rfl, rfl, fun _ _ _ => ⟨rfl, rfl, rfl⟩, fun b q => ⟨by funext e; rw [pm_x_sx, if_neg (fun z => q (by rw [z.1]; exact h))], rfl, rfl⟩⟩
theorem pm_fr_sz {S : pm_S} {a i : Nat} {v : Option Nat} {F : Nat → Nat → Prop} {A : Nat → Prop} (h : A a) : pm_fr S (pm_sz S a i v) F A := ⟨rfl, rfl, fun _ _ _ => ⟨rfl, rfl, rfl⟩, fun b q => ⟨rfl, rfl, by funext e; rw [pm_z_sz, if_neg (fun z => q (by rw [z.1]; exact h))]⟩⟩
theorem pm_fr_sr {S : pm_S} {a : Nat} {r : Nat → Int32} {F : Nat → Nat → Prop} {A : Nat → Prop} (h : A a) : pm_fr S (pm_sr S a r) F A := ⟨rfl, rfl, fun _ _ _ => ⟨rfl, rfl, rfl⟩, fun b q => ⟨by funext e; rw [pm_x_sr, if_neg (fun z => q (by rw [z]; exact h))], rfl, rfl⟩⟩
/-- an object of Term, its row -/
def pm_to (S : pm_S) (t r : Nat) : Prop := pm_k S t = 4 ∧ pm_p S 150 t = some r ∧ pm_k S r = 9 ∧ pm_n S r = 95
/-- .. that holds the row of numbers w -/
def pm_tm (S : pm_S) (t r : Nat) (w : List Int32) : Prop := pm_to S t r ∧ pm_i S 151 t = nI w.length ∧ w.length ≤ 95 ∧ ∀ i, i < w.length → w[i]? = some (pm_x S r i)
/-- a term's own change -/
def pm_ft (S S' : pm_S) (t r : Nat) : Prop := pm_fr S S' (fun g b => g = 151 ∧ b = t) (fun b => b = r)
theorem pm_to.fr {S S' : pm_S} {t r : Nat} {F : Nat → Nat → Prop} {A : Nat → Prop} (h : pm_to S t r) (hf : pm_fr S S' F A) (h1 : ¬ F 150 t) : pm_to S' t r := by
  obtain ⟨a1, a2, a3, a4⟩ := h
  exact ⟨by rw [hf.1]; exact a1, by rw [(hf.2.2.1 150 t h1).2.2]; exact a2, by rw [hf.1]; exact a3, by rw [hf.2.1]; exact a4⟩
theorem pm_to.ft {S S' : pm_S} {t r a b : Nat} (h : pm_to S t r) (hf : pm_ft S S' a b) : pm_to S' t r := h.fr hf (fun z => by omega)
theorem pm_tm.fr {S S' : pm_S} {t r : Nat} {w : List Int32} {F : Nat → Nat → Prop} {A : Nat → Prop} (h : pm_tm S t r w) (hf : pm_fr S S' F A) (h1 : ¬ F 150 t) (h2 : ¬ F 151 t) (h3 : ¬ A r) : pm_tm S' t r w := by
  obtain ⟨a1, a2, a3, a4⟩ := h
  exact ⟨a1.fr hf h1, by rw [(hf.2.2.1 151 t h2).1]; exact a2, a3, fun i hi => by rw [(hf.2.2.2 r h3).1]; exact a4 i hi⟩
theorem pm_lt0 {a : Int32} : a < 0 ↔ a.toInt < 0 := by rw [Int32.lt_iff_toInt_lt]; rfl
theorem pm_0le {a : Int32} : 0 ≤ a ↔ 0 ≤ a.toInt := by rw [Int32.le_iff_toInt_le]; rfl
theorem pm_nle {a b : Nat} (hb : b < 2 ^ 31) (ha : a < 2 ^ 31) : nI a ≤ nI b ↔ a ≤ b := nI_leI ha hb
theorem pm_ft.rf {S : pm_S} {t r : Nat} : pm_ft S S t r := pm_fr.rf
theorem pm_ft.tr {S S1 S2 : pm_S} {t r : Nat} (h : pm_ft S S1 t r) (h2 : pm_ft S1 S2 t r) : pm_ft S S2 t r := pm_fr.tr h h2
theorem pm_ft.x {S S1 : pm_S} {t r i : Nat} {v : Int32} (h : pm_ft S S1 t r) : pm_ft S (pm_sx S1 r i v) t r := pm_fr.tr h (pm_fr_sx rfl)
theorem pm_ft.l {S S1 : pm_S} {t r : Nat} {v : Int32} (h : pm_ft S S1 t r) : pm_ft S (pm_si S1 151 t v) t r := pm_fr.tr h (pm_fr_si ⟨rfl, rfl⟩)
theorem pm_ft.r {S S1 : pm_S} {t r : Nat} {f : Nat → Int32} (h : pm_ft S S1 t r) : pm_ft S (pm_sr S1 r f) t r := pm_fr.tr h (pm_fr_sr rfl)
