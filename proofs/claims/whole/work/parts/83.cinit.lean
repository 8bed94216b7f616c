/-! what ProcessMill's constructor makes -/
def sI8 (S : pm_S) (v : Nat) : pm_S := pm_si (pm_si (pm_si (pm_si (pm_si (pm_si (pm_si (pm_si S 308 v 0) 309 v 0) 310 v 0) 311 v 0) 312 v 0) 313 v 0) 314 v 0) 315 v 0
theorem sI8_e8 {S : pm_S} {v d : Nat} (hd : d ≠ v) : pm_e8 S (sI8 S v) d := e8_tr (e8_tr (e8_tr (e8_tr (e8_tr (e8_tr (e8_tr (e8_si hd) (e8_si hd)) (e8_si hd)) (e8_si hd)) (e8_si hd)) (e8_si hd)) (e8_si hd)) (e8_si hd)
theorem sI8_k (S : pm_S) (v a : Nat) : pm_k (sI8 S v) a = pm_k S a := by unfold sI8; simp only [pm_k_si]
theorem sI8_p (S : pm_S) (v f a : Nat) : pm_p (sI8 S v) f a = pm_p S f a := by unfold sI8; simp only [pm_p_si]
theorem sI8_i (S : pm_S) (v f : Nat) (h : 308 ≤ f ∧ f ≤ 315) : pm_i (sI8 S v) f v = 0 := by
  unfold sI8
  simp only [pm_i_si, and_true]
  by_cases h1 : f = 315
  · rw [if_pos h1]
  rw [if_neg h1]
  by_cases h1 : f = 314
  · rw [if_pos h1]
  rw [if_neg h1]
  by_cases h1 : f = 313
  · rw [if_pos h1]
  rw [if_neg h1]
  by_cases h1 : f = 312
  · rw [if_pos h1]
  rw [if_neg h1]
  by_cases h1 : f = 311
  · rw [if_pos h1]
  rw [if_neg h1]
  by_cases h1 : f = 310
  · rw [if_pos h1]
  rw [if_neg h1]
  by_cases h1 : f = 309
  · rw [if_pos h1]
  rw [if_neg h1, if_pos (by omega)]
def ad15 (l : List Nat) (c : Nat) : Nat := l.getD c 0
/-- a stage of a constructor: what was there stays, but for v -/
def nST (S S2 : pm_S) (v : Nat) : Prop := (∀ b, pm_k S b ≠ 0 → b ≠ v → pm_e8 S S2 b) ∧ pm_k S2 v = pm_k S v
theorem nST.tr {S S1 S2 : pm_S} {v : Nat} (h1 : nST S S1 v) (h2 : nST S1 S2 v) : nST S S2 v := ⟨fun b hb hv => e8_tr (h1.1 b hb hv) (h2.1 b (by rw [(h1.1 b hb hv).1]; exact hb) hv), h2.2.trans h1.2⟩
theorem nST.fr {S S2 : pm_S} {v r : Nat} (h : nST S S2 v) (hr : pm_k S2 r = 0) (hv : pm_k S v ≠ 0) : pm_k S r = 0 := by
  by_cases e : r = v
  · rw [e, h.2] at hr; exact absurd hr hv
  · by_cases q : pm_k S r = 0
    · exact q
    · rw [(h.1 r q e).1] at hr; exact absurd hr q
/-- an array, and the field of v that holds it -/
theorem nST.arr {S : pm_S} {v r K N f : Nat} (hr : pm_k S r = 0) (hv : pm_k S v ≠ 0) : nST S (pm_sp (pm_nw S r K N) f v (some r)) v := by
  have hrv : v ≠ r := fun e => hv (by rw [e]; exact hr)
  exact ⟨fun b hb hbv => e8_tr (e8_nw (fun e => hb (by rw [e]; exact hr))) (e8_sp hbv), by rw [pm_k_sp, pm_k_nw, if_neg hrv]⟩
theorem nST.blk {S S1 : pm_S} {v f : Nat} {x : Option Nat} (h : ∀ b, pm_k S b ≠ 0 → pm_e8 S S1 b) (hv : pm_k S v ≠ 0) : nST S (pm_sp S1 f v x) v := ⟨fun b hb hbv => e8_tr (h b hb) (e8_sp hbv), by rw [pm_k_sp]; exact (h v hv).1⟩
/-- watches, a sheet -/
theorem sWt_of {S : pm_S} {v b c e : Nat} (f1 : pm_k S v = 0) (f2 : pm_k (pm_nw S v 6 0) b = 0) (f3 : pm_k (pm_sp (pm_nw (pm_nw S v 6 0) b 9 200) 250 v (some b)) c = 0) (f4 : pm_k (pm_sp (pm_nw (pm_sp (pm_nw (pm_nw S v 6 0) b 9 200) 250 v (some b)) c 9 200) 251 v (some c)) e = 0) (S2 : pm_S) (hS : S2 = pm_si (pm_si (pm_sp (pm_nw (pm_sp (pm_nw (pm_sp (pm_nw (pm_nw S v 6 0) b 9 200) 250 v (some b)) c 9 200) 251 v (some c)) e 9 200) 252 v (some e)) 253 v 0) 254 v 0) : pm_k S b = 0 ∧ pm_k S c = 0 ∧ pm_k S e = 0 ∧ b ≠ c ∧ b ≠ e ∧ c ≠ e ∧ pm_wt S2 v b c e ∧ pm_i S2 253 v = 0 ∧ pm_i S2 254 v = 0 ∧ ∀ d, pm_k S d ≠ 0 → pm_e8 S S2 d := by
  have nvb : v ≠ b := fun z => by rw [← z, pm_k_nw, if_pos rfl] at f2; cases f2
  rw [pm_k_nw, if_neg (fun z => nvb z.symm)] at f2
  simp only [pm_k_sp] at f3
  have nbc : b ≠ c := fun z => by rw [← z, pm_k_nw, if_pos rfl] at f3; cases f3
  rw [pm_k_nw, if_neg (fun z => nbc z.symm)] at f3
  have nvc : v ≠ c := fun z => by rw [← z, pm_k_nw, if_pos rfl] at f3; cases f3
  rw [pm_k_nw, if_neg (fun z => nvc z.symm)] at f3
  simp only [pm_k_sp] at f4
  have nce : c ≠ e := fun z => by rw [← z, pm_k_nw, if_pos rfl] at f4; cases f4
  rw [pm_k_nw, if_neg (fun z => nce z.symm)] at f4
  simp only [pm_k_sp] at f4
  have nbe : b ≠ e := fun z => by rw [← z, pm_k_nw, if_pos rfl] at f4; cases f4
  rw [pm_k_nw, if_neg (fun z => nbe z.symm)] at f4
  have nve : v ≠ e := fun z => by rw [← z, pm_k_nw, if_pos rfl] at f4; cases f4
  rw [pm_k_nw, if_neg (fun z => nve z.symm)] at f4
  refine ⟨f2, f3, f4, nbc, nbe, nce, ?_, ?_, ?_, fun d hd => ?_⟩
  · subst hS
    unfold pm_wt
    simp only [pm_k_si, pm_k_sp, pm_k_nw, pm_n_si, pm_n_sp, pm_n_nw, pm_p_si, pm_p_sp, pm_p_nw, if_neg nvb, if_neg nvc, if_neg nve, if_neg nbc, if_neg nbe, if_neg nce, and_self, if_true]
    simp [nbc, nbe, nce]
  · subst hS; simp [pm_i_si]
  · subst hS; simp [pm_i_si]
  · subst hS
    have n1 : d ≠ v := fun z => hd (by rw [z]; exact f1)
    have n2 : d ≠ b := fun z => hd (by rw [z]; exact f2)
    have n3 : d ≠ c := fun z => hd (by rw [z]; exact f3)
    have n4 : d ≠ e := fun z => hd (by rw [z]; exact f4)
    exact e8_tr (e8_tr (e8_tr (e8_tr (e8_tr (e8_tr (e8_tr (e8_tr (e8_nw n1) (e8_nw n2)) (e8_sp n1)) (e8_nw n3)) (e8_sp n1)) (e8_nw n4)) (e8_sp n1)) (e8_si n1)) (e8_si n1)
theorem sSh_of {S : pm_S} {m k : Nat} (f1 : pm_k S m = 0) (f2 : pm_k (pm_nw S m 3 0) k = 0) (S2 : pm_S) (hS : S2 = pm_si (pm_sp (pm_nw (pm_nw S m 3 0) k 9 600) 100 m (some k)) 101 m 0) : pm_k S k = 0 ∧ m ≠ k ∧ pm_sh S2 m k ∧ pm_i S2 101 m = 0 ∧ ∀ b, pm_k S b ≠ 0 → pm_e8 S S2 b := by
  have nmk : m ≠ k := fun e => by rw [← e, pm_k_nw, if_pos rfl] at f2; cases f2
  have f3 : pm_k S k = 0 := by rw [pm_k_nw, if_neg (fun e => nmk e.symm)] at f2; exact f2
  refine ⟨f3, nmk, ?_, by subst hS; simp [pm_i_si], fun b hb => ?_⟩
  · subst hS
    unfold pm_sh
    simp only [pm_k_si, pm_k_sp, pm_k_nw, pm_n_si, pm_n_sp, pm_n_nw, pm_p_si, pm_p_sp, if_neg nmk, and_self, if_true]
  · subst hS
    have n1 : b ≠ m := fun e => hb (by rw [e]; exact f1)
    have n2 : b ≠ k := fun e => hb (by rw [e]; exact f3)
    exact e8_tr (e8_tr (e8_tr (e8_nw n1) (e8_nw n2)) (e8_sp n1)) (e8_si n1)
set_option maxHeartbeats 4000000 in
set_option maxRecDepth 100000 in
theorem c_X6_init (G : pm_G) (l : Launch) (bs : Nat) (v : Nat) (S : pm_S) (hk : pm_k S v = 7) : pm_M G l bs yX6_init cX6_init 1 none 2 14 2821 [.ref v] S (pm_qv (fun S2 => ∃ ad : Nat → Nat, ad 0 = v ∧ (∀ c, 0 < c → c < 15 → pm_k S (ad c) = 0) ∧ (∀ c d, c < 15 → d < 15 → ad c = ad d → c = d) ∧ sC S2 ad ∧ (∀ f c i, tbA f = some (c, i) → pm_i S2 f (ad c) = 0) ∧ pm_i S2 253 (ad 5) = 0 ∧ (∀ i, pm_x S2 (ad 1) i = 0) ∧ (∀ i, pm_z S2 (ad 3) i = none) ∧ ∀ b, pm_k S b ≠ 0 → b ≠ v → pm_e8 S S2 b)) := by
  have kv0 := hk
  refine pm_Mv (L := [.ref v]) true (by decide +kernel) (fun _ => rfl) rfl (pm_en_1 rfl (pm_en_0 rfl)) ?_
  generalize hQ9 : pm_xv (fun S2 => ∃ ad : Nat → Nat, ad 0 = v ∧ (∀ c, 0 < c → c < 15 → pm_k S (ad c) = 0) ∧ (∀ c d, c < 15 → d < 15 → ad c = ad d → c = d) ∧ sC S2 ad ∧ (∀ f c i, tbA f = some (c, i) → pm_i S2 f (ad c) = 0) ∧ pm_i S2 253 (ad 5) = 0 ∧ (∀ i, pm_x S2 (ad 1) i = 0) ∧ (∀ i, pm_z S2 (ad 3) i = none) ∧ ∀ b, pm_k S b ≠ 0 → b ≠ v → pm_e8 S S2 b) = Q9
  refine pm_aload_n dX6_init_0 rfl ?_
  refine pm_objInit pm_m_X6_1 pm_oi pm_oc (by decide) (Nat.le_of_ble_eq_true rfl) dX6_init_1 ?_
  refine pm_aload_n dX6_init_4 rfl ?_
  refine pm_sipush (v := 1200) dX6_init_5 (by decide) ?_
  refine pm_newarrI (N := 1200) rfl (by decide) pm_ac_int (kc' := 13) (ks' := 1621) (by decide) (by decide) dX6_init_8 (fun r8 hf8 hb8 => ?_)
  have nv1 : v ≠ r8 := fun e => by rw [← e, kv0] at hf8; cases hf8
  refine pm_p_Mill_program (by rw [pm_k_nw, if_neg nv1]; exact kv0) pm_f_X6_9 rfl rfl pm_fw_X6_9 dX6_init_10 ?_
  have s1 : nST S (pm_sp (pm_nw S r8 9 1200) 300 v (some r8)) v := nST.arr hf8 (by rw [kv0]; decide)
  have kv1 : pm_k (pm_sp (pm_nw S r8 9 1200) 300 v (some r8)) v = 7 := s1.2.trans kv0
  have c1 : pm_k (pm_sp (pm_nw S r8 9 1200) 300 v (some r8)) r8 = 9 ∧ pm_n (pm_sp (pm_nw S r8 9 1200) 300 v (some r8)) r8 = 1200 ∧ (∀ i, pm_x (pm_sp (pm_nw S r8 9 1200) 300 v (some r8)) r8 i = 0) ∧ (∀ i, pm_z (pm_sp (pm_nw S r8 9 1200) 300 v (some r8)) r8 i = none) := by
    rw [pm_k_sp, pm_k_nw, if_pos rfl, pm_n_sp, pm_n_nw, if_pos rfl]
    exact ⟨rfl, rfl, fun i => by rw [pm_x_sp, pm_x_nw, if_pos rfl], fun i => by rw [pm_z_sp, pm_z_nw, if_pos rfl]⟩
  have q1 : ∀ g, pm_p (pm_sp (pm_nw S r8 9 1200) 300 v (some r8)) g v = if g = 300 then some r8 else pm_p S g v := fun g => by
    rw [pm_p_sp, pm_p_nw, if_neg nv1]
    by_cases e : g = 300
    · rw [if_pos ⟨e, rfl⟩, if_pos e]
    · rw [if_neg (fun z => e z.1), if_neg e]
  generalize pm_sp (pm_nw S r8 9 1200) 300 v (some r8) = S10 at s1 kv1 c1 q1 ⊢
  refine pm_aload_n dX6_init_13 rfl ?_
  refine pm_bipush (v := 60) dX6_init_14 (by decide) ?_
  refine pm_anewP (N := 60) rfl (by decide) pm_c_X6_13 (kc' := 12) (ks' := 1561) (by decide) (by decide) dX6_init_16 (fun r16 hf16 hb16 => ?_)
  have nv2 : v ≠ r16 := fun e => by rw [← e, kv1] at hf16; cases hf16
  refine pm_p_Mill_processes (by rw [pm_k_nw, if_neg nv2]; exact kv1) pm_f_X6_15 rfl rfl pm_fw_X6_15 dX6_init_19 ?_
  have s2 : nST S10 (pm_sp (pm_nw S10 r16 12 60) 301 v (some r16)) v := nST.arr hf16 (by rw [kv1]; decide)
  have kv2 : pm_k (pm_sp (pm_nw S10 r16 12 60) 301 v (some r16)) v = 7 := s2.2.trans kv1
  have c2 : pm_k (pm_sp (pm_nw S10 r16 12 60) 301 v (some r16)) r16 = 12 ∧ pm_n (pm_sp (pm_nw S10 r16 12 60) 301 v (some r16)) r16 = 60 ∧ (∀ i, pm_x (pm_sp (pm_nw S10 r16 12 60) 301 v (some r16)) r16 i = 0) ∧ (∀ i, pm_z (pm_sp (pm_nw S10 r16 12 60) 301 v (some r16)) r16 i = none) := by
    rw [pm_k_sp, pm_k_nw, if_pos rfl, pm_n_sp, pm_n_nw, if_pos rfl]
    exact ⟨rfl, rfl, fun i => by rw [pm_x_sp, pm_x_nw, if_pos rfl], fun i => by rw [pm_z_sp, pm_z_nw, if_pos rfl]⟩
  have q2 : ∀ g, pm_p (pm_sp (pm_nw S10 r16 12 60) 301 v (some r16)) g v = if g = 301 then some r16 else pm_p S10 g v := fun g => by
    rw [pm_p_sp, pm_p_nw, if_neg nv2]
    by_cases e : g = 301
    · rw [if_pos ⟨e, rfl⟩, if_pos e]
    · rw [if_neg (fun z => e z.1), if_neg e]
  generalize pm_sp (pm_nw S10 r16 12 60) 301 v (some r16) = S20 at s2 kv2 c2 q2 ⊢
  refine pm_aload_n dX6_init_22 rfl ?_
  refine pm_bipush (v := 100) dX6_init_23 (by decide) ?_
  refine pm_anewP (N := 100) rfl (by decide) pm_c_X6_13 (kc' := 11) (ks' := 1461) (by decide) (by decide) dX6_init_25 (fun r25 hf25 hb25 => ?_)
  have nv3 : v ≠ r25 := fun e => by rw [← e, kv2] at hf25; cases hf25
  refine pm_p_Mill_named (by rw [pm_k_nw, if_neg nv3]; exact kv2) pm_f_X6_19 rfl rfl pm_fw_X6_19 dX6_init_28 ?_
  have s3 : nST S20 (pm_sp (pm_nw S20 r25 12 100) 302 v (some r25)) v := nST.arr hf25 (by rw [kv2]; decide)
  have kv3 : pm_k (pm_sp (pm_nw S20 r25 12 100) 302 v (some r25)) v = 7 := s3.2.trans kv2
  have c3 : pm_k (pm_sp (pm_nw S20 r25 12 100) 302 v (some r25)) r25 = 12 ∧ pm_n (pm_sp (pm_nw S20 r25 12 100) 302 v (some r25)) r25 = 100 ∧ (∀ i, pm_x (pm_sp (pm_nw S20 r25 12 100) 302 v (some r25)) r25 i = 0) ∧ (∀ i, pm_z (pm_sp (pm_nw S20 r25 12 100) 302 v (some r25)) r25 i = none) := by
    rw [pm_k_sp, pm_k_nw, if_pos rfl, pm_n_sp, pm_n_nw, if_pos rfl]
    exact ⟨rfl, rfl, fun i => by rw [pm_x_sp, pm_x_nw, if_pos rfl], fun i => by rw [pm_z_sp, pm_z_nw, if_pos rfl]⟩
  have q3 : ∀ g, pm_p (pm_sp (pm_nw S20 r25 12 100) 302 v (some r25)) g v = if g = 302 then some r25 else pm_p S20 g v := fun g => by
    rw [pm_p_sp, pm_p_nw, if_neg nv3]
    by_cases e : g = 302
    · rw [if_pos ⟨e, rfl⟩, if_pos e]
    · rw [if_neg (fun z => e z.1), if_neg e]
  generalize pm_sp (pm_nw S20 r25 12 100) 302 v (some r25) = S30 at s3 kv3 c3 q3 ⊢
  refine pm_aload_n dX6_init_31 rfl ?_
  refine pm_bipush (v := 60) dX6_init_32 (by decide) ?_
  refine pm_anewP (N := 60) rfl (by decide) pm_c_X6_13 (kc' := 10) (ks' := 1401) (by decide) (by decide) dX6_init_34 (fun r34 hf34 hb34 => ?_)
  have nv4 : v ≠ r34 := fun e => by rw [← e, kv3] at hf34; cases hf34
  refine pm_p_Mill_dying (by rw [pm_k_nw, if_neg nv4]; exact kv3) pm_f_X6_22 rfl rfl pm_fw_X6_22 dX6_init_37 ?_
  have s4 : nST S30 (pm_sp (pm_nw S30 r34 12 60) 303 v (some r34)) v := nST.arr hf34 (by rw [kv3]; decide)
  have kv4 : pm_k (pm_sp (pm_nw S30 r34 12 60) 303 v (some r34)) v = 7 := s4.2.trans kv3
  have c4 : pm_k (pm_sp (pm_nw S30 r34 12 60) 303 v (some r34)) r34 = 12 ∧ pm_n (pm_sp (pm_nw S30 r34 12 60) 303 v (some r34)) r34 = 60 ∧ (∀ i, pm_x (pm_sp (pm_nw S30 r34 12 60) 303 v (some r34)) r34 i = 0) ∧ (∀ i, pm_z (pm_sp (pm_nw S30 r34 12 60) 303 v (some r34)) r34 i = none) := by
    rw [pm_k_sp, pm_k_nw, if_pos rfl, pm_n_sp, pm_n_nw, if_pos rfl]
    exact ⟨rfl, rfl, fun i => by rw [pm_x_sp, pm_x_nw, if_pos rfl], fun i => by rw [pm_z_sp, pm_z_nw, if_pos rfl]⟩
  have q4 : ∀ g, pm_p (pm_sp (pm_nw S30 r34 12 60) 303 v (some r34)) g v = if g = 303 then some r34 else pm_p S30 g v := fun g => by
    rw [pm_p_sp, pm_p_nw, if_neg nv4]
    by_cases e : g = 303
    · rw [if_pos ⟨e, rfl⟩, if_pos e]
    · rw [if_neg (fun z => e z.1), if_neg e]
  generalize pm_sp (pm_nw S30 r34 12 60) 303 v (some r34) = S40 at s4 kv4 c4 q4 ⊢
  refine pm_aload_n dX6_init_40 rfl ?_
  refine pm_new_Watches pm_c_X6_25 (kc' := 9) (ks' := 1396) (by decide) (by decide) dX6_init_41 (fun a41 hf41 hb41 => ?_)
  refine pm_dup dX6_init_44 ?_
  refine pm_callI (c_X5_init G l bs a41 (pm_nw S40 a41 6 0) (by rw [pm_k_nw, if_pos rfl])) pm_y_X5_init pm_i_X5_init rfl (Or.inr ⟨_, pm_m_X6_27⟩) rfl (by decide) (kc2 := 6) (ks2 := 796) (by decide) (by decide) (Nat.le_of_ble_eq_true rfl) dX6_init_45 rfl (fun v45 S45 h45 => ?_)
  obtain ⟨rfl, h45⟩ := h45
  dsimp only [Option.toList, List.nil_append]
  obtain ⟨b5, c5, e5, w1, -, w2, -, w3, -, e45⟩ := h45
  obtain ⟨l1, l2, l3, l4, l5, l6, l7, l8, l9, l10⟩ := sWt_of hf41 w1 w2 w3 S45 e45
  have kv5b : pm_k S45 v = 7 := (l10 v (by rw [kv4]; decide)).1.trans kv4
  refine pm_p_Mill_watches kv5b pm_f_X6_28 rfl rfl pm_fw_X6_28 dX6_init_48 ?_
  have s5 : nST S40 (pm_sp S45 304 v (some a41)) v := nST.blk l10 (by rw [kv4]; decide)
  have kv5 : pm_k (pm_sp S45 304 v (some a41)) v = 7 := s5.2.trans kv4
  have q5 : ∀ g, pm_p (pm_sp S45 304 v (some a41)) g v = if g = 304 then some a41 else pm_p S40 g v := fun g => by
    rw [pm_p_sp, (l10 v (by rw [kv4]; decide)).2.2.2.2.1]
    by_cases e : g = 304
    · rw [if_pos ⟨e, rfl⟩, if_pos e]
    · rw [if_neg (fun z => e z.1), if_neg e]
  have nv5 : ∀ d, pm_k S40 d = 0 → d ≠ v := fun d hd e => by rw [e, kv4] at hd; cases hd
  have c5f : pm_wt (pm_sp S45 304 v (some a41)) a41 b5 c5 e5 ∧ pm_i (pm_sp S45 304 v (some a41)) 253 a41 = 0 ∧ pm_i (pm_sp S45 304 v (some a41)) 254 a41 = 0 := by
    obtain ⟨w0, w1, w2, w3, w4⟩ := l7
    exact ⟨⟨w0, by rw [pm_p_sp, if_neg (fun z => by cases z.1)]; exact w1, by rw [pm_p_sp, if_neg (fun z => by cases z.1)]; exact w2, by rw [pm_p_sp, if_neg (fun z => by cases z.1)]; exact w3, w4⟩, l8, l9⟩
  generalize pm_sp S45 304 v (some a41) = S50 at s5 kv5 q5 c5f ⊢
  refine pm_aload_n dX6_init_51 rfl ?_
  refine pm_new_Sheet pm_c_X6_32 (kc' := 5) (ks' := 794) (by decide) (by decide) dX6_init_52 (fun a52 hf52 hb52 => ?_)
  refine pm_dup dX6_init_55 ?_
  refine pm_callI (c_X2_init G l bs a52 (pm_nw S50 a52 3 0) (by rw [pm_k_nw, if_pos rfl])) pm_y_X2_init pm_i_X2_init rfl (Or.inr ⟨_, pm_m_X6_34⟩) rfl (by decide) (kc2 := 4) (ks2 := 194) (by decide) (by decide) (Nat.le_of_ble_eq_true rfl) dX6_init_56 rfl (fun v56 S56 h56 => ?_)
  obtain ⟨rfl, h56⟩ := h56
  dsimp only [Option.toList, List.nil_append]
  obtain ⟨y6, w6, -, e56⟩ := h56
  obtain ⟨m1, m2, m3, m4, m5⟩ := sSh_of hf52 w6 S56 e56
  have kv6b : pm_k S56 v = 7 := (m5 v (by rw [kv5]; decide)).1.trans kv5
  refine pm_p_Mill_sheet kv6b pm_f_X6_35 rfl rfl pm_fw_X6_35 dX6_init_59 ?_
  have s6 : nST S50 (pm_sp S56 305 v (some a52)) v := nST.blk m5 (by rw [kv5]; decide)
  have kv6 : pm_k (pm_sp S56 305 v (some a52)) v = 7 := s6.2.trans kv5
  have q6 : ∀ g, pm_p (pm_sp S56 305 v (some a52)) g v = if g = 305 then some a52 else pm_p S50 g v := fun g => by
    rw [pm_p_sp, (m5 v (by rw [kv5]; decide)).2.2.2.2.1]
    by_cases e : g = 305
    · rw [if_pos ⟨e, rfl⟩, if_pos e]
    · rw [if_neg (fun z => e z.1), if_neg e]
  have c6f : pm_sh (pm_sp S56 305 v (some a52)) a52 y6 ∧ pm_i (pm_sp S56 305 v (some a52)) 101 a52 = 0 := by
    obtain ⟨w0, w1, w4⟩ := m3
    exact ⟨⟨w0, by rw [pm_p_sp, if_neg (fun z => by cases z.1)]; exact w1, w4⟩, m4⟩
  generalize pm_sp S56 305 v (some a52) = S60 at s6 kv6 q6 c6f ⊢
  refine pm_aload_n dX6_init_62 rfl ?_
  refine pm_new_Term pm_c_X6_39 (kc' := 3) (ks' := 192) (by decide) (by decide) dX6_init_63 (fun a63 hf63 hb63 => ?_)
  refine pm_dup dX6_init_66 ?_
  refine pm_callI (c_X3_init G l bs a63 (pm_nw S60 a63 4 0) (by rw [pm_k_nw, if_pos rfl])) pm_y_X3_init pm_i_X3_init rfl (Or.inr ⟨_, pm_m_X6_41⟩) rfl (by decide) (kc2 := 2) (ks2 := 97) (by decide) (by decide) (Nat.le_of_ble_eq_true rfl) dX6_init_67 rfl (fun v67 S67 h67 => ?_)
  obtain ⟨rfl, h67⟩ := h67
  dsimp only [Option.toList, List.nil_append]
  obtain ⟨r79, w7, -, e67⟩ := h67
  obtain ⟨g71, g72, g73, g74⟩ := sTm_of hf63 w7
  have e67b : S67 = sTm S60 a63 r79 := e67
  rw [← e67b] at g73 g74
  have kv7b : pm_k S67 v = 7 := (g74 v (by rw [kv6]; decide)).1.trans kv6
  refine pm_p_Mill_letter kv7b pm_f_X6_42 rfl rfl pm_fw_X6_42 dX6_init_70 ?_
  have s7 : nST S60 (pm_sp S67 306 v (some a63)) v := nST.blk g74 (by rw [kv6]; decide)
  have kv7 : pm_k (pm_sp S67 306 v (some a63)) v = 7 := s7.2.trans kv6
  have q7 : ∀ g, pm_p (pm_sp S67 306 v (some a63)) g v = if g = 306 then some a63 else pm_p S60 g v := fun g => by
    rw [pm_p_sp, (g74 v (by rw [kv6]; decide)).2.2.2.2.1]
    by_cases e : g = 306
    · rw [if_pos ⟨e, rfl⟩, if_pos e]
    · rw [if_neg (fun z => e z.1), if_neg e]
  have c7f : pm_to (pm_sp S67 306 v (some a63)) a63 r79 := by
    obtain ⟨⟨w0, w1, w4⟩, -⟩ := g73
    exact ⟨w0, by rw [pm_p_sp, if_neg (fun z => by cases z.1)]; exact w1, w4⟩
  generalize pm_sp S67 306 v (some a63) = S70 at s7 kv7 q7 c7f ⊢
  refine pm_aload_n dX6_init_73 rfl ?_
  refine pm_new_Term pm_c_X6_39 (kc' := 1) (ks' := 95) (by decide) (by decide) dX6_init_74 (fun a74 hf74 hb74 => ?_)
  refine pm_dup dX6_init_77 ?_
  refine pm_callI (c_X3_init G l bs a74 (pm_nw S70 a74 4 0) (by rw [pm_k_nw, if_pos rfl])) pm_y_X3_init pm_i_X3_init rfl (Or.inr ⟨_, pm_m_X6_41⟩) rfl (by decide) (kc2 := 0) (ks2 := 0) (by decide) (by decide) (Nat.le_of_ble_eq_true rfl) dX6_init_78 rfl (fun v78 S78 h78 => ?_)
  obtain ⟨rfl, h78⟩ := h78
  dsimp only [Option.toList, List.nil_append]
  obtain ⟨r89, w8, -, e78⟩ := h78
  obtain ⟨g81, g82, g83, g84⟩ := sTm_of hf74 w8
  have e78b : S78 = sTm S70 a74 r89 := e78
  rw [← e78b] at g83 g84
  have kv8b : pm_k S78 v = 7 := (g84 v (by rw [kv7]; decide)).1.trans kv7
  refine pm_p_Mill_cause kv8b pm_f_X6_46 rfl rfl pm_fw_X6_46 dX6_init_81 ?_
  have s8 : nST S70 (pm_sp S78 307 v (some a74)) v := nST.blk g84 (by rw [kv7]; decide)
  have kv8 : pm_k (pm_sp S78 307 v (some a74)) v = 7 := s8.2.trans kv7
  have q8 : ∀ g, pm_p (pm_sp S78 307 v (some a74)) g v = if g = 307 then some a74 else pm_p S70 g v := fun g => by
    rw [pm_p_sp, (g84 v (by rw [kv7]; decide)).2.2.2.2.1]
    by_cases e : g = 307
    · rw [if_pos ⟨e, rfl⟩, if_pos e]
    · rw [if_neg (fun z => e z.1), if_neg e]
  have c8f : pm_to (pm_sp S78 307 v (some a74)) a74 r89 := by
    obtain ⟨⟨w0, w1, w4⟩, -⟩ := g83
    exact ⟨w0, by rw [pm_p_sp, if_neg (fun z => by cases z.1)]; exact w1, w4⟩
  generalize pm_sp S78 307 v (some a74) = S80 at s8 kv8 q8 c8f ⊢
  refine pm_aload_n dX6_init_84 rfl ?_
  refine pm_iconst (v := 0) dX6_init_85 (by decide) ?_
  refine pm_p_Mill_started (by (try simp only [pm_k_si, pm_k_sj, pm_k_sp, pm_k_sx, pm_k_sz, pm_k_sr, pm_k_sy]); assumption) pm_f_X6_49 dX6_init_86 ?_
  refine pm_aload_n dX6_init_89 rfl ?_
  refine pm_iconst (v := 0) dX6_init_90 (by decide) ?_
  refine pm_p_Mill_deaths (by (try simp only [pm_k_si, pm_k_sj, pm_k_sp, pm_k_sx, pm_k_sz, pm_k_sr, pm_k_sy]); assumption) pm_f_X6_53 dX6_init_91 ?_
  refine pm_aload_n dX6_init_94 rfl ?_
  refine pm_iconst (v := 0) dX6_init_95 (by decide) ?_
  refine pm_p_Mill_deathsSpread (by (try simp only [pm_k_si, pm_k_sj, pm_k_sp, pm_k_sx, pm_k_sz, pm_k_sr, pm_k_sy]); assumption) pm_f_X6_56 dX6_init_96 ?_
  refine pm_aload_n dX6_init_99 rfl ?_
  refine pm_iconst (v := 0) dX6_init_100 (by decide) ?_
  refine pm_p_Mill_turns (by (try simp only [pm_k_si, pm_k_sj, pm_k_sp, pm_k_sx, pm_k_sz, pm_k_sr, pm_k_sy]); assumption) pm_f_X6_59 dX6_init_101 ?_
  refine pm_aload_n dX6_init_104 rfl ?_
  refine pm_iconst (v := 0) dX6_init_105 (by decide) ?_
  refine pm_p_Mill_slices (by (try simp only [pm_k_si, pm_k_sj, pm_k_sp, pm_k_sx, pm_k_sz, pm_k_sr, pm_k_sy]); assumption) pm_f_X6_62 dX6_init_106 ?_
  refine pm_aload_n dX6_init_109 rfl ?_
  refine pm_iconst (v := 0) dX6_init_110 (by decide) ?_
  refine pm_p_Mill_wordsDone (by (try simp only [pm_k_si, pm_k_sj, pm_k_sp, pm_k_sx, pm_k_sz, pm_k_sr, pm_k_sy]); assumption) pm_f_X6_65 dX6_init_111 ?_
  refine pm_aload_n dX6_init_114 rfl ?_
  refine pm_iconst (v := 0) dX6_init_115 (by decide) ?_
  refine pm_p_Mill_time (by (try simp only [pm_k_si, pm_k_sj, pm_k_sp, pm_k_sx, pm_k_sz, pm_k_sr, pm_k_sy]); assumption) pm_f_X6_68 dX6_init_116 ?_
  refine pm_aload_n dX6_init_119 rfl ?_
  refine pm_iconst (v := 0) dX6_init_120 (by decide) ?_
  refine pm_p_Mill_messagesCame (by (try simp only [pm_k_si, pm_k_sj, pm_k_sp, pm_k_sx, pm_k_sz, pm_k_sr, pm_k_sy]); assumption) pm_f_X6_71 dX6_init_121 ?_
  subst hQ9
  refine pm_vret dX6_init_124 ?_
  show ∃ ad : Nat → Nat, _ ∧ _ ∧ _ ∧ sC (sI8 S80 v) ad ∧ _
  have s89 : nST S80 (sI8 S80 v) v := ⟨fun b hb hbv => sI8_e8 hbv, sI8_k S80 v v⟩
  have t8 := s89
  have t7 := s8.tr t8
  have t6 := s7.tr t7
  have t5 := s6.tr t6
  have t4 := s5.tr t5
  have t3 := s4.tr t4
  have t2 := s3.tr t3
  have t1 := s2.tr t2
  have t0 := s1.tr t1
  have nv_1 : r8 ≠ v := fun e => by have q := hf8; rw [e, kv0] at q; cases q
  have nv_2 : r16 ≠ v := fun e => by have q := hf16; rw [e, kv1] at q; cases q
  have nv_3 : r25 ≠ v := fun e => by have q := hf25; rw [e, kv2] at q; cases q
  have nv_4 : r34 ≠ v := fun e => by have q := hf34; rw [e, kv3] at q; cases q
  have nv_5 : a41 ≠ v := fun e => by have q := hf41; rw [e, kv4] at q; cases q
  have nv_6 : b5 ≠ v := fun e => by have q := l1; rw [e, kv4] at q; cases q
  have nv_7 : c5 ≠ v := fun e => by have q := l2; rw [e, kv4] at q; cases q
  have nv_8 : e5 ≠ v := fun e => by have q := l3; rw [e, kv4] at q; cases q
  have nv_9 : a52 ≠ v := fun e => by have q := hf52; rw [e, kv5] at q; cases q
  have nv_10 : y6 ≠ v := fun e => by have q := m1; rw [e, kv5] at q; cases q
  have nv_11 : a63 ≠ v := fun e => by have q := hf63; rw [e, kv6] at q; cases q
  have nv_12 : r79 ≠ v := fun e => by have q := g71; rw [e, kv6] at q; cases q
  have nv_13 : a74 ≠ v := fun e => by have q := hf74; rw [e, kv7] at q; cases q
  have nv_14 : r89 ≠ v := fun e => by have q := g81; rw [e, kv7] at q; cases q
  have z1 := t1.1 r8 (by rw [c1.1]; decide) nv_1
  have z2 := t2.1 r16 (by rw [c2.1]; decide) nv_2
  have z3 := t3.1 r25 (by rw [c3.1]; decide) nv_3
  have z4 := t4.1 r34 (by rw [c4.1]; decide) nv_4
  have z5 := t5.1 a41 (by rw [c5f.1.1]; decide) nv_5
  have z6 := t5.1 b5 (by rw [c5f.1.2.2.2.2.1]; decide) nv_6
  have z7 := t5.1 c5 (by rw [c5f.1.2.2.2.2.2.2.1]; decide) nv_7
  have z8 := t5.1 e5 (by rw [c5f.1.2.2.2.2.2.2.2.2.1]; decide) nv_8
  have z9 := t6.1 a52 (by rw [c6f.1.1]; decide) nv_9
  have z10 := t6.1 y6 (by rw [c6f.1.2.2.1]; decide) nv_10
  have z11 := t7.1 a63 (by rw [c7f.1]; decide) nv_11
  have z12 := t7.1 r79 (by rw [c7f.2.2.1]; decide) nv_12
  have z13 := t8.1 a74 (by rw [c8f.1]; decide) nv_13
  have z14 := t8.1 r89 (by rw [c8f.2.2.1]; decide) nv_14
  have k1 : pm_k (sI8 S80 v) r8 = 9 := z1.1.trans c1.1
  have k2 : pm_k (sI8 S80 v) r16 = 12 := z2.1.trans c2.1
  have k3 : pm_k (sI8 S80 v) r25 = 12 := z3.1.trans c3.1
  have k4 : pm_k (sI8 S80 v) r34 = 12 := z4.1.trans c4.1
  have k5 : pm_k (sI8 S80 v) a41 = 6 := z5.1.trans c5f.1.1
  have k6 : pm_k (sI8 S80 v) b5 = 9 := z6.1.trans c5f.1.2.2.2.2.1
  have k7 : pm_k (sI8 S80 v) c5 = 9 := z7.1.trans c5f.1.2.2.2.2.2.2.1
  have k8 : pm_k (sI8 S80 v) e5 = 9 := z8.1.trans c5f.1.2.2.2.2.2.2.2.2.1
  have k9 : pm_k (sI8 S80 v) a52 = 3 := z9.1.trans c6f.1.1
  have k10 : pm_k (sI8 S80 v) y6 = 9 := z10.1.trans c6f.1.2.2.1
  have k11 : pm_k (sI8 S80 v) a63 = 4 := z11.1.trans c7f.1
  have k12 : pm_k (sI8 S80 v) r79 = 9 := z12.1.trans c7f.2.2.1
  have k13 : pm_k (sI8 S80 v) a74 = 4 := z13.1.trans c8f.1
  have k14 : pm_k (sI8 S80 v) r89 = 9 := z14.1.trans c8f.2.2.1
  have f1 : pm_k S r8 = 0 := hf8
  have f2 : pm_k S r16 = 0 := s1.fr hf16 (by rw [hk]; decide)
  have f3 : pm_k S r25 = 0 := (s1.tr s2).fr hf25 (by rw [hk]; decide)
  have f4 : pm_k S r34 = 0 := ((s1.tr s2).tr s3).fr hf34 (by rw [hk]; decide)
  have f5 : pm_k S a41 = 0 := (((s1.tr s2).tr s3).tr s4).fr hf41 (by rw [hk]; decide)
  have f6 : pm_k S b5 = 0 := (((s1.tr s2).tr s3).tr s4).fr l1 (by rw [hk]; decide)
  have f7 : pm_k S c5 = 0 := (((s1.tr s2).tr s3).tr s4).fr l2 (by rw [hk]; decide)
  have f8 : pm_k S e5 = 0 := (((s1.tr s2).tr s3).tr s4).fr l3 (by rw [hk]; decide)
  have f9 : pm_k S a52 = 0 := ((((s1.tr s2).tr s3).tr s4).tr s5).fr hf52 (by rw [hk]; decide)
  have f10 : pm_k S y6 = 0 := ((((s1.tr s2).tr s3).tr s4).tr s5).fr m1 (by rw [hk]; decide)
  have f11 : pm_k S a63 = 0 := (((((s1.tr s2).tr s3).tr s4).tr s5).tr s6).fr hf63 (by rw [hk]; decide)
  have f12 : pm_k S r79 = 0 := (((((s1.tr s2).tr s3).tr s4).tr s5).tr s6).fr g71 (by rw [hk]; decide)
  have f13 : pm_k S a74 = 0 := ((((((s1.tr s2).tr s3).tr s4).tr s5).tr s6).tr s7).fr hf74 (by rw [hk]; decide)
  have f14 : pm_k S r89 = 0 := ((((((s1.tr s2).tr s3).tr s4).tr s5).tr s6).tr s7).fr g81 (by rw [hk]; decide)
  refine ⟨ad15 [v, r8, r16, r25, r34, a41, b5, c5, e5, a52, y6, a63, r79, a74, r89], rfl, fun c h0 h1 => ?_, fun c d hc hd e => ?_, ?_, fun f c i hf => ?_, z5.2.2.1 253 |>.trans c5f.2.1, fun i => (z1.2.2.2.2.2.1 i).trans (c1.2.2.1 i), fun i => (z3.2.2.2.2.2.2.2 i).trans (c3.2.2.2 i), t0.1⟩
  · match c, h0, h1 with
    | 1, _, _ => exact f1
    | 2, _, _ => exact f2
    | 3, _, _ => exact f3
    | 4, _, _ => exact f4
    | 5, _, _ => exact f5
    | 6, _, _ => exact f6
    | 7, _, _ => exact f7
    | 8, _, _ => exact f8
    | 9, _, _ => exact f9
    | 10, _, _ => exact f10
    | 11, _, _ => exact f11
    | 12, _, _ => exact f12
    | 13, _, _ => exact f13
    | 14, _, _ => exact f14
    | _ + 15, _, h => exact absurd h (by omega)
  · have ne : ∀ d, d < 15 → ∀ c, c < d → ad15 [v, r8, r16, r25, r34, a41, b5, c5, e5, a52, y6, a63, r79, a74, r89] c ≠ ad15 [v, r8, r16, r25, r34, a41, b5, c5, e5, a52, y6, a63, r79, a74, r89] d := by
      intro d hd c hc
      match d, hd, c, hc with
      | 1, _, 0, _ => exact fun (e : v = r8) => nv_1 e.symm
      | 2, _, 0, _ => exact fun (e : v = r16) => nv_2 e.symm
      | 2, _, 1, _ => exact fun (e : r8 = r16) => absurd (by rw [← k1, ← k2, e] : (9 : Nat) = 12) (by decide)
      | 3, _, 0, _ => exact fun (e : v = r25) => nv_3 e.symm
      | 3, _, 1, _ => exact fun (e : r8 = r25) => absurd (by rw [← k1, ← k3, e] : (9 : Nat) = 12) (by decide)
      | 3, _, 2, _ => exact fun (e : r16 = r25) => by have q := hf25; rw [← e, c2.1] at q; cases q
      | 4, _, 0, _ => exact fun (e : v = r34) => nv_4 e.symm
      | 4, _, 1, _ => exact fun (e : r8 = r34) => absurd (by rw [← k1, ← k4, e] : (9 : Nat) = 12) (by decide)
      | 4, _, 2, _ => exact fun (e : r16 = r34) => by have q := hf34; rw [← e, ((s3.1 r16 (by rw [c2.1]; decide) nv_2).1.trans c2.1)] at q; cases q
      | 4, _, 3, _ => exact fun (e : r25 = r34) => by have q := hf34; rw [← e, c3.1] at q; cases q
      | 5, _, 0, _ => exact fun (e : v = a41) => nv_5 e.symm
      | 5, _, 1, _ => exact fun (e : r8 = a41) => absurd (by rw [← k1, ← k5, e] : (9 : Nat) = 6) (by decide)
      | 5, _, 2, _ => exact fun (e : r16 = a41) => absurd (by rw [← k2, ← k5, e] : (12 : Nat) = 6) (by decide)
      | 5, _, 3, _ => exact fun (e : r25 = a41) => absurd (by rw [← k3, ← k5, e] : (12 : Nat) = 6) (by decide)
      | 5, _, 4, _ => exact fun (e : r34 = a41) => absurd (by rw [← k4, ← k5, e] : (12 : Nat) = 6) (by decide)
      | 6, _, 0, _ => exact fun (e : v = b5) => nv_6 e.symm
      | 6, _, 1, _ => exact fun (e : r8 = b5) => by have q := l1; rw [← e, ((((s2.tr s3).tr s4).1 r8 (by rw [c1.1]; decide) nv_1).1.trans c1.1)] at q; cases q
      | 6, _, 2, _ => exact fun (e : r16 = b5) => absurd (by rw [← k2, ← k6, e] : (12 : Nat) = 9) (by decide)
      | 6, _, 3, _ => exact fun (e : r25 = b5) => absurd (by rw [← k3, ← k6, e] : (12 : Nat) = 9) (by decide)
      | 6, _, 4, _ => exact fun (e : r34 = b5) => absurd (by rw [← k4, ← k6, e] : (12 : Nat) = 9) (by decide)
      | 6, _, 5, _ => exact fun (e : a41 = b5) => absurd (by rw [← k5, ← k6, e] : (6 : Nat) = 9) (by decide)
      | 7, _, 0, _ => exact fun (e : v = c5) => nv_7 e.symm
      | 7, _, 1, _ => exact fun (e : r8 = c5) => by have q := l2; rw [← e, ((((s2.tr s3).tr s4).1 r8 (by rw [c1.1]; decide) nv_1).1.trans c1.1)] at q; cases q
      | 7, _, 2, _ => exact fun (e : r16 = c5) => absurd (by rw [← k2, ← k7, e] : (12 : Nat) = 9) (by decide)
      | 7, _, 3, _ => exact fun (e : r25 = c5) => absurd (by rw [← k3, ← k7, e] : (12 : Nat) = 9) (by decide)
      | 7, _, 4, _ => exact fun (e : r34 = c5) => absurd (by rw [← k4, ← k7, e] : (12 : Nat) = 9) (by decide)
      | 7, _, 5, _ => exact fun (e : a41 = c5) => absurd (by rw [← k5, ← k7, e] : (6 : Nat) = 9) (by decide)
      | 7, _, 6, _ => exact l4
      | 8, _, 0, _ => exact fun (e : v = e5) => nv_8 e.symm
      | 8, _, 1, _ => exact fun (e : r8 = e5) => by have q := l3; rw [← e, ((((s2.tr s3).tr s4).1 r8 (by rw [c1.1]; decide) nv_1).1.trans c1.1)] at q; cases q
      | 8, _, 2, _ => exact fun (e : r16 = e5) => absurd (by rw [← k2, ← k8, e] : (12 : Nat) = 9) (by decide)
      | 8, _, 3, _ => exact fun (e : r25 = e5) => absurd (by rw [← k3, ← k8, e] : (12 : Nat) = 9) (by decide)
      | 8, _, 4, _ => exact fun (e : r34 = e5) => absurd (by rw [← k4, ← k8, e] : (12 : Nat) = 9) (by decide)
      | 8, _, 5, _ => exact fun (e : a41 = e5) => absurd (by rw [← k5, ← k8, e] : (6 : Nat) = 9) (by decide)
      | 8, _, 6, _ => exact l5
      | 8, _, 7, _ => exact l6
      | 9, _, 0, _ => exact fun (e : v = a52) => nv_9 e.symm
      | 9, _, 1, _ => exact fun (e : r8 = a52) => absurd (by rw [← k1, ← k9, e] : (9 : Nat) = 3) (by decide)
      | 9, _, 2, _ => exact fun (e : r16 = a52) => absurd (by rw [← k2, ← k9, e] : (12 : Nat) = 3) (by decide)
      | 9, _, 3, _ => exact fun (e : r25 = a52) => absurd (by rw [← k3, ← k9, e] : (12 : Nat) = 3) (by decide)
      | 9, _, 4, _ => exact fun (e : r34 = a52) => absurd (by rw [← k4, ← k9, e] : (12 : Nat) = 3) (by decide)
      | 9, _, 5, _ => exact fun (e : a41 = a52) => absurd (by rw [← k5, ← k9, e] : (6 : Nat) = 3) (by decide)
      | 9, _, 6, _ => exact fun (e : b5 = a52) => absurd (by rw [← k6, ← k9, e] : (9 : Nat) = 3) (by decide)
      | 9, _, 7, _ => exact fun (e : c5 = a52) => absurd (by rw [← k7, ← k9, e] : (9 : Nat) = 3) (by decide)
      | 9, _, 8, _ => exact fun (e : e5 = a52) => absurd (by rw [← k8, ← k9, e] : (9 : Nat) = 3) (by decide)
      | 10, _, 0, _ => exact fun (e : v = y6) => nv_10 e.symm
      | 10, _, 1, _ => exact fun (e : r8 = y6) => by have q := m1; rw [← e, (((((s2.tr s3).tr s4).tr s5).1 r8 (by rw [c1.1]; decide) nv_1).1.trans c1.1)] at q; cases q
      | 10, _, 2, _ => exact fun (e : r16 = y6) => absurd (by rw [← k2, ← k10, e] : (12 : Nat) = 9) (by decide)
      | 10, _, 3, _ => exact fun (e : r25 = y6) => absurd (by rw [← k3, ← k10, e] : (12 : Nat) = 9) (by decide)
      | 10, _, 4, _ => exact fun (e : r34 = y6) => absurd (by rw [← k4, ← k10, e] : (12 : Nat) = 9) (by decide)
      | 10, _, 5, _ => exact fun (e : a41 = y6) => absurd (by rw [← k5, ← k10, e] : (6 : Nat) = 9) (by decide)
      | 10, _, 6, _ => exact fun (e : b5 = y6) => by have q := m1; rw [← e, c5f.1.2.2.2.2.1] at q; cases q
      | 10, _, 7, _ => exact fun (e : c5 = y6) => by have q := m1; rw [← e, c5f.1.2.2.2.2.2.2.1] at q; cases q
      | 10, _, 8, _ => exact fun (e : e5 = y6) => by have q := m1; rw [← e, c5f.1.2.2.2.2.2.2.2.2.1] at q; cases q
      | 10, _, 9, _ => exact fun (e : a52 = y6) => absurd (by rw [← k9, ← k10, e] : (3 : Nat) = 9) (by decide)
      | 11, _, 0, _ => exact fun (e : v = a63) => nv_11 e.symm
      | 11, _, 1, _ => exact fun (e : r8 = a63) => absurd (by rw [← k1, ← k11, e] : (9 : Nat) = 4) (by decide)
      | 11, _, 2, _ => exact fun (e : r16 = a63) => absurd (by rw [← k2, ← k11, e] : (12 : Nat) = 4) (by decide)
      | 11, _, 3, _ => exact fun (e : r25 = a63) => absurd (by rw [← k3, ← k11, e] : (12 : Nat) = 4) (by decide)
      | 11, _, 4, _ => exact fun (e : r34 = a63) => absurd (by rw [← k4, ← k11, e] : (12 : Nat) = 4) (by decide)
      | 11, _, 5, _ => exact fun (e : a41 = a63) => absurd (by rw [← k5, ← k11, e] : (6 : Nat) = 4) (by decide)
      | 11, _, 6, _ => exact fun (e : b5 = a63) => absurd (by rw [← k6, ← k11, e] : (9 : Nat) = 4) (by decide)
      | 11, _, 7, _ => exact fun (e : c5 = a63) => absurd (by rw [← k7, ← k11, e] : (9 : Nat) = 4) (by decide)
      | 11, _, 8, _ => exact fun (e : e5 = a63) => absurd (by rw [← k8, ← k11, e] : (9 : Nat) = 4) (by decide)
      | 11, _, 9, _ => exact fun (e : a52 = a63) => absurd (by rw [← k9, ← k11, e] : (3 : Nat) = 4) (by decide)
      | 11, _, 10, _ => exact fun (e : y6 = a63) => absurd (by rw [← k10, ← k11, e] : (9 : Nat) = 4) (by decide)
      | 12, _, 0, _ => exact fun (e : v = r79) => nv_12 e.symm
      | 12, _, 1, _ => exact fun (e : r8 = r79) => by have q := g71; rw [← e, ((((((s2.tr s3).tr s4).tr s5).tr s6).1 r8 (by rw [c1.1]; decide) nv_1).1.trans c1.1)] at q; cases q
      | 12, _, 2, _ => exact fun (e : r16 = r79) => absurd (by rw [← k2, ← k12, e] : (12 : Nat) = 9) (by decide)
      | 12, _, 3, _ => exact fun (e : r25 = r79) => absurd (by rw [← k3, ← k12, e] : (12 : Nat) = 9) (by decide)
      | 12, _, 4, _ => exact fun (e : r34 = r79) => absurd (by rw [← k4, ← k12, e] : (12 : Nat) = 9) (by decide)
      | 12, _, 5, _ => exact fun (e : a41 = r79) => absurd (by rw [← k5, ← k12, e] : (6 : Nat) = 9) (by decide)
      | 12, _, 6, _ => exact fun (e : b5 = r79) => by have q := g71; rw [← e, ((s6.1 b5 (by rw [c5f.1.2.2.2.2.1]; decide) nv_6).1.trans c5f.1.2.2.2.2.1)] at q; cases q
      | 12, _, 7, _ => exact fun (e : c5 = r79) => by have q := g71; rw [← e, ((s6.1 c5 (by rw [c5f.1.2.2.2.2.2.2.1]; decide) nv_7).1.trans c5f.1.2.2.2.2.2.2.1)] at q; cases q
      | 12, _, 8, _ => exact fun (e : e5 = r79) => by have q := g71; rw [← e, ((s6.1 e5 (by rw [c5f.1.2.2.2.2.2.2.2.2.1]; decide) nv_8).1.trans c5f.1.2.2.2.2.2.2.2.2.1)] at q; cases q
      | 12, _, 9, _ => exact fun (e : a52 = r79) => absurd (by rw [← k9, ← k12, e] : (3 : Nat) = 9) (by decide)
      | 12, _, 10, _ => exact fun (e : y6 = r79) => by have q := g71; rw [← e, c6f.1.2.2.1] at q; cases q
      | 12, _, 11, _ => exact fun (e : a63 = r79) => absurd (by rw [← k11, ← k12, e] : (4 : Nat) = 9) (by decide)
      | 13, _, 0, _ => exact fun (e : v = a74) => nv_13 e.symm
      | 13, _, 1, _ => exact fun (e : r8 = a74) => absurd (by rw [← k1, ← k13, e] : (9 : Nat) = 4) (by decide)
      | 13, _, 2, _ => exact fun (e : r16 = a74) => absurd (by rw [← k2, ← k13, e] : (12 : Nat) = 4) (by decide)
      | 13, _, 3, _ => exact fun (e : r25 = a74) => absurd (by rw [← k3, ← k13, e] : (12 : Nat) = 4) (by decide)
      | 13, _, 4, _ => exact fun (e : r34 = a74) => absurd (by rw [← k4, ← k13, e] : (12 : Nat) = 4) (by decide)
      | 13, _, 5, _ => exact fun (e : a41 = a74) => absurd (by rw [← k5, ← k13, e] : (6 : Nat) = 4) (by decide)
      | 13, _, 6, _ => exact fun (e : b5 = a74) => absurd (by rw [← k6, ← k13, e] : (9 : Nat) = 4) (by decide)
      | 13, _, 7, _ => exact fun (e : c5 = a74) => absurd (by rw [← k7, ← k13, e] : (9 : Nat) = 4) (by decide)
      | 13, _, 8, _ => exact fun (e : e5 = a74) => absurd (by rw [← k8, ← k13, e] : (9 : Nat) = 4) (by decide)
      | 13, _, 9, _ => exact fun (e : a52 = a74) => absurd (by rw [← k9, ← k13, e] : (3 : Nat) = 4) (by decide)
      | 13, _, 10, _ => exact fun (e : y6 = a74) => absurd (by rw [← k10, ← k13, e] : (9 : Nat) = 4) (by decide)
      | 13, _, 11, _ => exact fun (e : a63 = a74) => by have q := hf74; rw [← e, c7f.1] at q; cases q
      | 13, _, 12, _ => exact fun (e : r79 = a74) => absurd (by rw [← k12, ← k13, e] : (9 : Nat) = 4) (by decide)
      | 14, _, 0, _ => exact fun (e : v = r89) => nv_14 e.symm
      | 14, _, 1, _ => exact fun (e : r8 = r89) => by have q := g81; rw [← e, (((((((s2.tr s3).tr s4).tr s5).tr s6).tr s7).1 r8 (by rw [c1.1]; decide) nv_1).1.trans c1.1)] at q; cases q
      | 14, _, 2, _ => exact fun (e : r16 = r89) => absurd (by rw [← k2, ← k14, e] : (12 : Nat) = 9) (by decide)
      | 14, _, 3, _ => exact fun (e : r25 = r89) => absurd (by rw [← k3, ← k14, e] : (12 : Nat) = 9) (by decide)
      | 14, _, 4, _ => exact fun (e : r34 = r89) => absurd (by rw [← k4, ← k14, e] : (12 : Nat) = 9) (by decide)
      | 14, _, 5, _ => exact fun (e : a41 = r89) => absurd (by rw [← k5, ← k14, e] : (6 : Nat) = 9) (by decide)
      | 14, _, 6, _ => exact fun (e : b5 = r89) => by have q := g81; rw [← e, (((s6.tr s7).1 b5 (by rw [c5f.1.2.2.2.2.1]; decide) nv_6).1.trans c5f.1.2.2.2.2.1)] at q; cases q
      | 14, _, 7, _ => exact fun (e : c5 = r89) => by have q := g81; rw [← e, (((s6.tr s7).1 c5 (by rw [c5f.1.2.2.2.2.2.2.1]; decide) nv_7).1.trans c5f.1.2.2.2.2.2.2.1)] at q; cases q
      | 14, _, 8, _ => exact fun (e : e5 = r89) => by have q := g81; rw [← e, (((s6.tr s7).1 e5 (by rw [c5f.1.2.2.2.2.2.2.2.2.1]; decide) nv_8).1.trans c5f.1.2.2.2.2.2.2.2.2.1)] at q; cases q
      | 14, _, 9, _ => exact fun (e : a52 = r89) => absurd (by rw [← k9, ← k14, e] : (3 : Nat) = 9) (by decide)
      | 14, _, 10, _ => exact fun (e : y6 = r89) => by have q := g81; rw [← e, ((s7.1 y6 (by rw [c6f.1.2.2.1]; decide) nv_10).1.trans c6f.1.2.2.1)] at q; cases q
      | 14, _, 11, _ => exact fun (e : a63 = r89) => absurd (by rw [← k11, ← k14, e] : (4 : Nat) = 9) (by decide)
      | 14, _, 12, _ => exact fun (e : r79 = r89) => by have q := g81; rw [← e, c7f.2.2.1] at q; cases q
      | 14, _, 13, _ => exact fun (e : a74 = r89) => absurd (by rw [← k13, ← k14, e] : (4 : Nat) = 9) (by decide)
      | _ + 15, h, _, _ => exact absurd h (by omega)
    rcases Nat.lt_trichotomy c d with h | h | h
    · exact absurd e (ne d hd c h)
    · exact h
    · exact absurd e.symm (ne c hc d h)
  · have w : pm_wt (sI8 S80 v) a41 b5 c5 e5 := by
      obtain ⟨w0, w1, w2, w3, w4, w5, w6, w7, w8, w9, w10⟩ := c5f.1
      exact ⟨k5, (z5.2.2.2.2.1 _).trans w1, (z5.2.2.2.2.1 _).trans w2, (z5.2.2.2.2.1 _).trans w3, k6, z6.2.1.trans w5, k7, z7.2.1.trans w7, k8, z8.2.1.trans w9, w10⟩
    exact ⟨⟨(sI8_k S80 v v).trans kv8, (show pm_p (sI8 S80 v) 300 v = some r8 from by rw [sI8_p, q8, if_neg (by decide), q7, if_neg (by decide), q6, if_neg (by decide), q5, if_neg (by decide), q4, if_neg (by decide), q3, if_neg (by decide), q2, if_neg (by decide), q1, if_pos rfl]), (show pm_p (sI8 S80 v) 301 v = some r16 from by rw [sI8_p, q8, if_neg (by decide), q7, if_neg (by decide), q6, if_neg (by decide), q5, if_neg (by decide), q4, if_neg (by decide), q3, if_neg (by decide), q2, if_pos rfl]), (show pm_p (sI8 S80 v) 302 v = some r25 from by rw [sI8_p, q8, if_neg (by decide), q7, if_neg (by decide), q6, if_neg (by decide), q5, if_neg (by decide), q4, if_neg (by decide), q3, if_pos rfl]), (show pm_p (sI8 S80 v) 303 v = some r34 from by rw [sI8_p, q8, if_neg (by decide), q7, if_neg (by decide), q6, if_neg (by decide), q5, if_neg (by decide), q4, if_pos rfl]), (show pm_p (sI8 S80 v) 304 v = some a41 from by rw [sI8_p, q8, if_neg (by decide), q7, if_neg (by decide), q6, if_neg (by decide), q5, if_pos rfl]), (show pm_p (sI8 S80 v) 305 v = some a52 from by rw [sI8_p, q8, if_neg (by decide), q7, if_neg (by decide), q6, if_pos rfl]), (show pm_p (sI8 S80 v) 306 v = some a63 from by rw [sI8_p, q8, if_neg (by decide), q7, if_pos rfl]), (show pm_p (sI8 S80 v) 307 v = some a74 from by rw [sI8_p, q8, if_pos rfl])⟩, ⟨k1, z1.2.1.trans c1.2.1⟩, ⟨k2, z2.2.1.trans c2.2.1⟩, ⟨k3, z3.2.1.trans c3.2.1⟩, ⟨k4, z4.2.1.trans c4.2.1⟩, w, ⟨k9, (z9.2.2.2.2.1 _).trans c6f.1.2.1, k10, z10.2.1.trans c6f.1.2.2.2⟩, ⟨k11, (z11.2.2.2.2.1 _).trans c7f.2.1, k12, z12.2.1.trans c7f.2.2.2⟩, ⟨k13, (z13.2.2.2.2.1 _).trans c8f.2.1, k14, z14.2.1.trans c8f.2.2.2⟩⟩
  · unfold tbA at hf
    split at hf <;> first | (cases hf; done) | (cases hf; first | exact sI8_i S80 v _ (by decide) | exact (z5.2.2.1 _).trans c5f.2.2 | exact (z9.2.2.1 _).trans c6f.2)

