/-! a new process: its objects -/
theorem e8_rf {S : pm_S} {b : Nat} : pm_e8 S S b := ⟨rfl, rfl, fun _ => rfl, fun _ => rfl, fun _ => rfl, fun _ => rfl, fun _ => rfl, fun _ => rfl⟩
theorem e8_tr {S S1 S2 : pm_S} {b : Nat} (h1 : pm_e8 S S1 b) (h2 : pm_e8 S1 S2 b) : pm_e8 S S2 b := by
  obtain ⟨a1, a2, a3, a4, a5, a6, a7, a8⟩ := h1
  obtain ⟨b1, b2, b3, b4, b5, b6, b7, b8⟩ := h2
  exact ⟨b1.trans a1, b2.trans a2, fun g => (b3 g).trans (a3 g), fun g => (b4 g).trans (a4 g), fun g => (b5 g).trans (a5 g), fun g => (b6 g).trans (a6 g), fun g => (b7 g).trans (a7 g), fun g => (b8 g).trans (a8 g)⟩
theorem e8_nw {S : pm_S} {a k n b : Nat} (h : b ≠ a) : pm_e8 S (pm_nw S a k n) b := by
  refine ⟨?_, ?_, fun g => ?_, fun g => ?_, fun g => ?_, fun g => ?_, fun g => ?_, fun g => ?_⟩ <;> simp only [pm_k_nw, pm_n_nw, pm_i_nw, pm_j_nw, pm_p_nw, pm_x_nw, pm_y_nw, pm_z_nw, if_neg h]
theorem e8_sp {S : pm_S} {f a b : Nat} {v : Option Nat} (h : b ≠ a) : pm_e8 S (pm_sp S f a v) b := ⟨rfl, rfl, fun _ => rfl, fun _ => rfl, fun g => by rw [pm_p_sp, if_neg (fun z => h z.2)], fun _ => rfl, fun _ => rfl, fun _ => rfl⟩
theorem e8_si {S : pm_S} {f a b : Nat} {v : Int32} (h : b ≠ a) : pm_e8 S (pm_si S f a v) b := ⟨rfl, rfl, fun g => by rw [pm_i_si, if_neg (fun z => h z.2)], fun _ => rfl, fun _ => rfl, fun _ => rfl, fun _ => rfl, fun _ => rfl⟩
theorem e8_sj {S : pm_S} {f a b : Nat} {v : Int64} (h : b ≠ a) : pm_e8 S (pm_sj S f a v) b := ⟨rfl, rfl, fun _ => rfl, fun g => by rw [pm_j_sj, if_neg (fun z => h z.2)], fun _ => rfl, fun _ => rfl, fun _ => rfl, fun _ => rfl⟩
theorem e8_sz {S : pm_S} {a i b : Nat} {v : Option Nat} (h : b ≠ a) : pm_e8 S (pm_sz S a i v) b := ⟨rfl, rfl, fun _ => rfl, fun _ => rfl, fun _ => rfl, fun _ => rfl, fun _ => rfl, fun g => by rw [pm_z_sz, if_neg (fun z => h z.1)]⟩
theorem e8_7 {S S2 : pm_S} {b : Nat} (h : pm_e8 S S2 b) : pm_e7 S S2 b := ⟨h.1, h.2.1, h.2.2.1, h.2.2.2.1, h.2.2.2.2.1, h.2.2.2.2.2.1, h.2.2.2.2.2.2.1⟩
theorem pm_mb.mv {S S2 : pm_S} {m a : Nat} (h : pm_mb S m a) (h1 : pm_e8 S S2 m) (h2 : pm_e8 S S2 a) : pm_mb S2 m a := by
  obtain ⟨a1, a2, a3, a4⟩ := h
  exact ⟨h1.1.trans a1, (h1.2.2.2.2.1 _).trans a2, h2.1.trans a3, h2.2.1.trans a4⟩
theorem pm_ts.mv {S S2 : pm_S} {v b c e : Nat} (h : pm_ts S v b c e) (h1 : pm_e8 S S2 v) (h2 : pm_e8 S S2 b) (h3 : pm_e8 S S2 c) (h4 : pm_e8 S S2 e) : pm_ts S2 v b c e := by
  obtain ⟨a1, a2, a3, a4, a5, a6, a7, a8, a9, a10⟩ := h
  exact ⟨h1.1.trans a1, (h1.2.2.2.2.1 _).trans a2, (h1.2.2.2.2.1 _).trans a3, (h1.2.2.2.2.1 _).trans a4, h2.1.trans a5, h2.2.1.trans a6, h3.1.trans a7, h3.2.1.trans a8, h4.1.trans a9, h4.2.1.trans a10⟩
/-- a new term -/
def sTm (S : pm_S) (t r : Nat) : pm_S := pm_si (pm_sp (pm_nw (pm_nw S t 4 0) r 9 95) 150 t (some r)) 151 t 2
theorem sTm_of {S : pm_S} {t r : Nat} (f1 : pm_k S t = 0) (f2 : pm_k (pm_nw S t 4 0) r = 0) : pm_k S r = 0 ∧ t ≠ r ∧ pm_tm (sTm S t r) t r [0, 0] ∧ ∀ b, pm_k S b ≠ 0 → pm_e8 S (sTm S t r) b := by
  have ntr : t ≠ r := fun e => by rw [← e, pm_k_nw, if_pos rfl] at f2; cases f2
  have f3 : pm_k S r = 0 := by rw [pm_k_nw, if_neg (fun e => ntr e.symm)] at f2; exact f2
  refine ⟨f3, ntr, sRow_tm (a := 0) (k := 0) ntr, fun b hb => ?_⟩
  have n1 : b ≠ t := fun e => hb (by rw [e]; exact f1)
  have n2 : b ≠ r := fun e => hb (by rw [e]; exact f3)
  exact e8_tr (e8_tr (e8_tr (e8_nw n1) (e8_nw n2)) (e8_sp n1)) (e8_si n1)
/-- a new mailbox -/
theorem sMb_of {S : pm_S} {m k : Nat} (f1 : pm_k S m = 0) (f2 : pm_k (pm_nw S m 1 0) k = 0) : pm_k S k = 0 ∧ m ≠ k ∧ pm_mb (pm_si (pm_si (pm_sp (pm_nw (pm_nw S m 1 0) k 13 40) 0 m (some k)) 1 m 0) 2 m 0) m k ∧ pm_i (pm_si (pm_si (pm_sp (pm_nw (pm_nw S m 1 0) k 13 40) 0 m (some k)) 1 m 0) 2 m 0) 1 m = 0 ∧ pm_i (pm_si (pm_si (pm_sp (pm_nw (pm_nw S m 1 0) k 13 40) 0 m (some k)) 1 m 0) 2 m 0) 2 m = 0 ∧ (∀ i, pm_z (pm_si (pm_si (pm_sp (pm_nw (pm_nw S m 1 0) k 13 40) 0 m (some k)) 1 m 0) 2 m 0) k i = none) ∧ ∀ b, pm_k S b ≠ 0 → pm_e8 S (pm_si (pm_si (pm_sp (pm_nw (pm_nw S m 1 0) k 13 40) 0 m (some k)) 1 m 0) 2 m 0) b := by
  have nmk : m ≠ k := fun e => by rw [← e, pm_k_nw, if_pos rfl] at f2; cases f2
  have f3 : pm_k S k = 0 := by rw [pm_k_nw, if_neg (fun e => nmk e.symm)] at f2; exact f2
  refine ⟨f3, nmk, ⟨?_, ?_, ?_, ?_⟩, ?_, ?_, fun i => ?_, fun b hb => ?_⟩
  · simp only [pm_k_si, pm_k_sp, pm_k_nw, if_neg nmk, if_true]
  · simp only [pm_p_si, pm_p_sp, and_self, if_true]
  · simp only [pm_k_si, pm_k_sp, pm_k_nw, if_true]
  · simp only [pm_n_si, pm_n_sp, pm_n_nw, if_true]
  · simp [pm_i_si]
  · simp [pm_i_si]
  · simp only [pm_z_si, pm_z_sp, pm_z_nw, if_true]
  · have n1 : b ≠ m := fun e => hb (by rw [e]; exact f1)
    have n2 : b ≠ k := fun e => hb (by rw [e]; exact f3)
    exact e8_tr (e8_tr (e8_tr (e8_tr (e8_nw n1) (e8_nw n2)) (e8_sp n1)) (e8_si n1)) (e8_si n1)
/-- a new trail -/
theorem sTr_of {S : pm_S} {v b c e : Nat} (f1 : pm_k S v = 0) (f2 : pm_k (pm_nw S v 5 0) b = 0) (f3 : pm_k (pm_sp (pm_nw (pm_nw S v 5 0) b 9 16) 200 v (some b)) c = 0) (f4 : pm_k (pm_sp (pm_nw (pm_sp (pm_nw (pm_nw S v 5 0) b 9 16) 200 v (some b)) c 9 8) 201 v (some c)) e = 0) (S2 : pm_S) (hS : S2 = pm_si (pm_si (pm_sp (pm_nw (pm_sp (pm_nw (pm_sp (pm_nw (pm_nw S v 5 0) b 9 16) 200 v (some b)) c 9 8) 201 v (some c)) e 9 8) 202 v (some e)) 203 v 0) 204 v 0) : pm_k S b = 0 ∧ pm_k S c = 0 ∧ pm_k S e = 0 ∧ b ≠ c ∧ b ≠ e ∧ c ≠ e ∧ pm_ts S2 v b c e ∧ pm_i S2 203 v = 0 ∧ pm_i S2 204 v = 0 ∧ ∀ d, pm_k S d ≠ 0 → pm_e8 S S2 d := by
  have nvb : v ≠ b := fun z => by rw [← z, pm_k_nw, if_pos rfl] at f2; cases f2
  rw [pm_k_nw, if_neg (fun z => nvb z.symm)] at f2
  simp only [pm_k_sp] at f3
  have nbc : b ≠ c := fun z => by rw [← z, pm_k_nw, if_pos rfl] at f3; cases f3
  rw [pm_k_nw, if_neg (fun z => nbc z.symm)] at f3
  have nvc : v ≠ c := fun z => by rw [← z, pm_k_nw, if_pos rfl] at f3; cases f3
  rw [pm_k_nw, if_neg (fun z => nvc z.symm)] at f3
  simp only [pm_k_sp] at f4
  have nce : c ≠ e := fun z => by rw [← z, pm_k_nw, if_pos rfl] at f4; cases f4
  rw [pm_k_nw, if_neg (fun z => nce z.symm)] at f4
  simp only [pm_k_sp] at f4
  have nbe : b ≠ e := fun z => by rw [← z, pm_k_nw, if_pos rfl] at f4; cases f4
  rw [pm_k_nw, if_neg (fun z => nbe z.symm)] at f4
  have nve : v ≠ e := fun z => by rw [← z, pm_k_nw, if_pos rfl] at f4; cases f4
  rw [pm_k_nw, if_neg (fun z => nve z.symm)] at f4
  refine ⟨f2, f3, f4, nbc, nbe, nce, ?_, ?_, ?_, fun d hd => ?_⟩
  · subst hS
    unfold pm_ts
    simp only [pm_k_si, pm_k_sp, pm_k_nw, pm_n_si, pm_n_sp, pm_n_nw, pm_p_si, pm_p_sp, pm_p_nw, if_neg nvb, if_neg nvc, if_neg nve, if_neg nbc, if_neg nbe, if_neg nce, and_self, if_true]
    simp
  · subst hS; simp [pm_i_si]
  · subst hS; simp [pm_i_si]
  · subst hS
    have n1 : d ≠ v := fun z => hd (by rw [z]; exact f1)
    have n2 : d ≠ b := fun z => hd (by rw [z]; exact f2)
    have n3 : d ≠ c := fun z => hd (by rw [z]; exact f3)
    have n4 : d ≠ e := fun z => hd (by rw [z]; exact f4)
    exact e8_tr (e8_tr (e8_tr (e8_tr (e8_tr (e8_tr (e8_tr (e8_tr (e8_nw n1) (e8_nw n2)) (e8_sp n1)) (e8_nw n3)) (e8_sp n1)) (e8_nw n4)) (e8_sp n1)) (e8_si n1)) (e8_si n1)
/-- what a new process's own fields hold -/
def nV (S : pm_S) (v a t m l : Nat) (pid pr : Int32) : Prop := pm_k S v = 2 ∧ pm_p S 52 v = some a ∧ pm_p S 53 v = some t ∧ pm_p S 54 v = some m ∧ pm_p S 55 v = some l ∧ pm_i S 50 v = pid ∧ pm_i S 51 v = pr ∧ pm_i S 56 v = 0 ∧ pm_i S 57 v = 0 ∧ pm_i S 58 v = 0 ∧ pm_i S 59 v = 0 ∧ pm_i S 61 v = 0 ∧ pm_i S 62 v = -1 ∧ pm_i S 63 v = 0 ∧ pm_i S 65 v = 0 ∧ pm_j S 60 v = 9223372036854775807 ∧ pm_j S 64 v = 0
/-- a new process's parts: registers' array, reason, mailbox, trail -/
def nP (S : pm_S) (a t r m k l b c e : Nat) : Prop := (pm_k S a = 13 ∧ pm_n S a = 8) ∧ pm_tm S t r [0, 0] ∧ (pm_mb S m k ∧ pm_i S 1 m = 0 ∧ pm_i S 2 m = 0 ∧ ∀ i, pm_z S k i = none) ∧ (pm_ts S l b c e ∧ pm_i S 203 l = 0 ∧ pm_i S 204 l = 0)
/-- the own fields of a new process -/
def s12 (S : pm_S) (v : Nat) (pid pr : Int32) : pm_S := pm_si (pm_si (pm_si (pm_sj (pm_si (pm_si (pm_si (pm_sj (pm_si (pm_si (pm_si (pm_si S 56 v 0) 57 v 0) 58 v 0) 59 v 0) 60 v 9223372036854775807) 61 v 0) 62 v (-1)) 63 v 0) 64 v 0) 65 v 0) 50 v pid) 51 v pr
theorem s12_e8 {S : pm_S} {v d : Nat} {pid pr : Int32} (hd : d ≠ v) : pm_e8 S (s12 S v pid pr) d := e8_tr (e8_tr (e8_tr (e8_tr (e8_tr (e8_tr (e8_tr (e8_tr (e8_tr (e8_tr (e8_tr (e8_si hd) (e8_si hd)) (e8_si hd)) (e8_si hd)) (e8_sj hd)) (e8_si hd)) (e8_si hd)) (e8_si hd)) (e8_sj hd)) (e8_si hd)) (e8_si hd)) (e8_si hd)
theorem s12_k (S : pm_S) (v a : Nat) (pid pr : Int32) : pm_k (s12 S v pid pr) a = pm_k S a := by
  unfold s12
  simp only [pm_k_si, pm_k_sj]
theorem s12_p (S : pm_S) (v f a : Nat) (pid pr : Int32) : pm_p (s12 S v pid pr) f a = pm_p S f a := by
  unfold s12
  simp only [pm_p_si, pm_p_sj]
theorem s12_i (S : pm_S) (v : Nat) (pid pr : Int32) (f : Nat) : pm_i (s12 S v pid pr) f v = if f = 51 then pr else if f = 50 then pid else if f = 65 then 0 else if f = 63 then 0 else if f = 62 then -1 else if f = 61 then 0 else if f = 59 then 0 else if f = 58 then 0 else if f = 57 then 0 else if f = 56 then 0 else pm_i S f v := by
  unfold s12
  simp only [pm_i_si, pm_i_sj, and_true]
theorem s12_j (S : pm_S) (v : Nat) (pid pr : Int32) (f : Nat) : pm_j (s12 S v pid pr) f v = if f = 64 then 0 else if f = 60 then 9223372036854775807 else pm_j S f v := by
  unfold s12
  simp only [pm_j_si, pm_j_sj, and_true]
theorem s12_nv {S : pm_S} {v a t m l : Nat} (pid pr : Int32) (h0 : pm_k S v = 2) (h1 : pm_p S 52 v = some a) (h2 : pm_p S 53 v = some t) (h3 : pm_p S 54 v = some m) (h4 : pm_p S 55 v = some l) : nV (s12 S v pid pr) v a t m l pid pr := by
  unfold nV
  rw [s12_k, s12_p, s12_p, s12_p, s12_p]
  exact ⟨h0, h1, h2, h3, h4, s12_i _ _ _ _ 50, s12_i _ _ _ _ 51, s12_i _ _ _ _ 56, s12_i _ _ _ _ 57, s12_i _ _ _ _ 58, s12_i _ _ _ _ 59, s12_i _ _ _ _ 61, s12_i _ _ _ _ 62, s12_i _ _ _ _ 63, s12_i _ _ _ _ 65, s12_j _ _ _ _ 60, s12_j _ _ _ _ 64⟩
theorem nV.mv {S S2 : pm_S} {v a t m l : Nat} {pid pr : Int32} (h : nV S v a t m l pid pr) (h1 : pm_e8 S S2 v) : nV S2 v a t m l pid pr := by
  obtain ⟨a1, a2, a3, a4, a5, a6, a7, a8, a9, a10, a11, a12, a13, a14, a15, a16, a17⟩ := h
  obtain ⟨b1, b2, b3, b4, b5, -⟩ := h1
  exact ⟨b1.trans a1, (b5 _).trans a2, (b5 _).trans a3, (b5 _).trans a4, (b5 _).trans a5, (b3 _).trans a6, (b3 _).trans a7, (b3 _).trans a8, (b3 _).trans a9, (b3 _).trans a10, (b3 _).trans a11, (b3 _).trans a12, (b3 _).trans a13, (b3 _).trans a14, (b3 _).trans a15, (b4 _).trans a16, (b4 _).trans a17⟩
theorem nP.mv {S S2 : pm_S} {a t r m k l b c e : Nat} (h : nP S a t r m k l b c e) (h0 : pm_k S2 a = pm_k S a ∧ pm_n S2 a = pm_n S a) (hh : ∀ d, d ≠ a → pm_k S d ≠ 0 → pm_e8 S S2 d) (hk : a ≠ k) : nP S2 a t r m k l b c e := by
  obtain ⟨⟨a1, a2⟩, b1, ⟨c1, c2, c3, c4⟩, d1, d2, d3⟩ := h
  have q1 : ∀ d n, pm_k S d = n → n ≠ 0 → n ≠ 13 → pm_e8 S S2 d := fun d n e1 e2 e3 => hh d (fun z => e3 (by rw [← e1, z]; exact a1)) (by rw [e1]; exact e2)
  have em := q1 m 1 c1.1 (by decide) (by decide)
  have ek : pm_e8 S S2 k := hh k (fun z => hk z.symm) (by rw [c1.2.2.1]; decide)
  have el := q1 l 5 d1.1 (by decide) (by decide)
  exact ⟨⟨h0.1.trans a1, h0.2.trans a2⟩, b1.mv (e8_7 (q1 t 4 b1.1.1 (by decide) (by decide))) (e8_7 (q1 r 9 b1.1.2.2.1 (by decide) (by decide))), ⟨c1.mv em ek, (em.2.2.1 _).trans c2, (em.2.2.1 _).trans c3, fun i => (ek.2.2.2.2.2.2.2 i).trans (c4 i)⟩, d1.mv el (q1 b 9 d1.2.2.2.2.1 (by decide) (by decide)) (q1 c 9 d1.2.2.2.2.2.2.1 (by decide) (by decide)) (q1 e 9 d1.2.2.2.2.2.2.2.2.1 (by decide) (by decide)), (el.2.2.1 _).trans d2, (el.2.2.1 _).trans d3⟩
set_option maxHeartbeats 4000000 in
set_option maxRecDepth 100000 in
theorem c_X1_initL (G : pm_G) (l : Launch) (bs : Nat) (v a t r m k lt b c e : Nat) (pid pr : Int32) (S : pm_S) (hfa : pm_k S a = 0) (hak : a ≠ k) (Q9 : Instr → List Value → pm_S → Prop) (hfin : ∀ (S9 : pm_S) (tt rr : Nat → Nat), nV S9 v a t m lt pid pr → nP S9 a t r m k lt b c e → (∀ i, i < 8 → pm_z S9 a i = some (tt i) ∧ pm_tm S9 (tt i) (rr i) [0, 0] ∧ pm_k S (tt i) = 0 ∧ pm_k S (rr i) = 0) → (∀ b, pm_k S b ≠ 0 → b ≠ v → pm_e8 S S9 b) → (∀ i, i < 8 → tt i ≠ t ∧ rr i ≠ r ∧ rr i ≠ b ∧ rr i ≠ c ∧ rr i ≠ e) → (∀ i i2, i < 8 → i2 < 8 → (tt i = tt i2 → i = i2) ∧ (rr i = rr i2 → i = i2)) → Q9 .return_ [] S9) : ∀ (q j : Nat) (S9 : pm_S) (tt rr : Nat → Nat), j + q = 8 → nV S9 v a t m lt pid pr → nP S9 a t r m k lt b c e → (∀ i, i < j → pm_z S9 a i = some (tt i) ∧ pm_tm S9 (tt i) (rr i) [0, 0] ∧ pm_k S (tt i) = 0 ∧ pm_k S (rr i) = 0) → (∀ b, pm_k S b ≠ 0 → b ≠ v → pm_e8 S S9 b) → (∀ i, i < j → tt i ≠ t ∧ rr i ≠ r ∧ rr i ≠ b ∧ rr i ≠ c ∧ rr i ≠ e) → (∀ i i2, i < j → i2 < j → (tt i = tt i2 → i = i2) ∧ (rr i = rr i2 → i = i2)) → pm_W G l bs yX1_init.cls cX1_init 4 true 2 (2 * (8 - j)) (97 * (8 - j)) Q9 110 [.ref v, .int pid, .int pr, .int (nI j)] [] S9 := by
  intro q
  induction q using Nat.strongRecOn with
  | ind q ih =>
  intro j S9 tt rr hjq hV hP hz hfr0 hd1 hd2
  refine pm_iload_n dX1_init_110 rfl ?_
  refine pm_bipush (v := 8) dX1_init_111 (by decide) ?_
  refine pm_icmp_ge (tgt := 135) dX1_init_113 (by decide) (fun h113 => ?_) (fun h113 => ?_)
  · skip
    have h8 : j = 8 := by have := (pm_nle (a := 8) (b := j) (by omega) (by omega)).mp h113; omega
    subst h8
    exact pm_exit dX1_init_135 (hfin S9 tt rr hV hP hz hfr0 hd1 hd2)
  · skip
    have h8 : j < 8 := by rcases Nat.lt_or_ge j 8 with q | q; exact q; exact absurd ((pm_nle (a := 8) (b := j) (by omega) (by omega)).mpr q) h113
    refine pm_aload_n dX1_init_116 rfl ?_
    refine pm_g_Proc_registers hV.1 pm_f_X1_11 hV.2.1 dX1_init_117 ?_
    refine pm_iload_n dX1_init_120 rfl ?_
    refine pm_new_Term pm_c_X1_9 (kc' := (2 * (8 - j) - 1)) (ks' := (97 * (8 - j) - 2)) (by omega) (by omega) dX1_init_121 (fun a121 hf121 hb121 => ?_)
    refine pm_dup dX1_init_124 ?_
    refine pm_callI (c_X3_init G l bs a121 (pm_nw S9 a121 4 0) (by rw [pm_k_nw, if_pos rfl])) pm_y_X3_init pm_i_X3_init rfl (Or.inr ⟨_, pm_m_X1_17⟩) rfl (by decide) (kc2 := (2 * (8 - (j + 1)))) (ks2 := (97 * (8 - (j + 1)))) (by omega) (by omega) (Nat.le_of_ble_eq_true rfl) dX1_init_125 rfl (fun v125 S125 h125 => ?_)
    obtain ⟨rfl, h125⟩ := h125
    dsimp only [Option.toList, List.nil_append]
    obtain ⟨r9, hfr, hbr, e125⟩ := h125
    obtain ⟨g1, g2, g3, g4⟩ := sTm_of hf121 hfr
    have e125 : S125 = sTm S9 a121 r9 := e125
    rw [← e125] at g3 g4
    have ka : pm_k S125 a = 13 ∧ pm_n S125 a = 8 := ⟨(g4 a (by rw [hP.1.1]; decide)).1.trans hP.1.1, (g4 a (by rw [hP.1.1]; decide)).2.1.trans hP.1.2⟩
    refine pm_aastoreT (n := j) ka.1 rfl (by rw [ka.2]; omega) (by rw [ka.2]; decide) g3.1.1 dX1_init_128 ?_
    refine pm_iinc dX1_init_129 rfl rfl (by decide) ?_
    dsimp only [List.set]
    refine pm_goto (tgt := 110) dX1_init_132 (by decide) ?_
    have fresh9 : ∀ d, pm_k S9 d = 0 → pm_k S d = 0 := fun d hd => by
      by_cases z : d = v
      · rw [z, hV.1] at hd; cases hd
      · by_cases e2 : pm_k S d = 0
        · exact e2
        · rw [(hfr0 d e2 z).1] at hd; exact absurd hd e2
    have l9 : ∀ d, pm_k S9 d ≠ 0 → d ≠ a → pm_e8 S9 (pm_sz S125 a j (some a121)) d := fun d hd hda => e8_tr (g4 d hd) (e8_sz hda)
    have nt9 : ∀ d n, pm_k S9 d = n → n ≠ 0 → d ≠ a121 ∧ d ≠ r9 := fun d n h1 h2 => ⟨fun z => h2 (by rw [← h1, z]; exact hf121), fun z => h2 (by rw [← h1, z]; exact g1)⟩
    have hva : v ≠ a := fun z => by have := hV.1; rw [z, hP.1.1] at this; cases this
    have na1 := (nt9 a 13 hP.1.1 (by decide))
    rw [show nI j + Int32.ofInt 1 = nI (j + 1) from nI_1 _]
    refine ih (7 - j) (by omega) (j + 1) (pm_sz S125 a j (some a121)) (fun i => if i = j then a121 else tt i) (fun i => if i = j then r9 else rr i) (by omega) (hV.mv (l9 v (by rw [hV.1]; decide) hva)) (hP.mv ⟨(ka.1.trans hP.1.1.symm), (ka.2.trans hP.1.2.symm)⟩ (fun d hda hd => l9 d hd hda) hak) (fun i hi => ?_) (fun d hd hdv => ?_) (fun i hi => ?_) (fun i i2 hi hi2 => ?_)
    · by_cases z : i = j
      · simp only [if_pos z]
        refine ⟨by rw [pm_z_sz, if_pos ⟨rfl, z⟩], g3.mv (e8_7 (e8_sz (fun q => na1.1 q.symm))) (e8_7 (e8_sz (fun q => na1.2 q.symm))), fresh9 _ hf121, fresh9 _ g1⟩
      · simp only [if_neg z]
        obtain ⟨z1, z2, z3, z4⟩ := hz i (by omega)
        have na2 : tt i ≠ a := fun q => by have := z2.1.1; rw [q, hP.1.1] at this; cases this
        have na3 : rr i ≠ a := fun q => by have := z2.1.2.2.1; rw [q, hP.1.1] at this; cases this
        exact ⟨by rw [pm_z_sz, if_neg (fun q => z q.2), (g4 a (by rw [hP.1.1]; decide)).2.2.2.2.2.2.2]; exact z1, z2.mv (e8_7 (l9 _ (by rw [z2.1.1]; decide) na2)) (e8_7 (l9 _ (by rw [z2.1.2.2.1]; decide) na3)), z3, z4⟩
    · exact e8_tr (hfr0 d hd hdv) (l9 d (by rw [(hfr0 d hd hdv).1]; exact hd) (fun q => hd (by rw [q]; exact hfa)))
    · obtain ⟨⟨-, -⟩, y1, -, d1, -⟩ := hP
      by_cases z : i = j
      · simp only [if_pos z]
        exact ⟨fun q => (nt9 t 4 y1.1.1 (by decide)).1 q.symm, fun q => (nt9 r 9 y1.1.2.2.1 (by decide)).2 q.symm, fun q => (nt9 b 9 d1.2.2.2.2.1 (by decide)).2 q.symm, fun q => (nt9 c 9 d1.2.2.2.2.2.2.1 (by decide)).2 q.symm, fun q => (nt9 e 9 d1.2.2.2.2.2.2.2.2.1 (by decide)).2 q.symm⟩
      · simp only [if_neg z]
        exact hd1 i (by omega)
    · by_cases z : i = j
      · by_cases z2 : i2 = j
        · simp only [if_pos z, if_pos z2]
          exact ⟨fun _ => by omega, fun _ => by omega⟩
        · simp only [if_pos z, if_neg z2]
          obtain ⟨y1, y2, -⟩ := hz i2 (by omega)
          exact ⟨fun q => absurd q.symm (nt9 _ 4 y2.1.1 (by decide)).1, fun q => absurd q.symm (nt9 _ 9 y2.1.2.2.1 (by decide)).2⟩
      · by_cases z2 : i2 = j
        · simp only [if_neg z, if_pos z2]
          obtain ⟨y1, y2, -⟩ := hz i (by omega)
          exact ⟨fun q => absurd q (nt9 _ 4 y2.1.1 (by decide)).1, fun q => absurd q (nt9 _ 9 y2.1.2.2.1 (by decide)).2⟩
        · simp only [if_neg z, if_neg z2]
          exact hd2 i i2 (by omega) (by omega)
set_option maxHeartbeats 4000000 in
set_option maxRecDepth 100000 in
theorem c_X1_init (G : pm_G) (l : Launch) (bs : Nat) (v : Nat) (pid pr : Int32) (S : pm_S) (hk : pm_k S v = 2) : pm_M G l bs yX1_init cX1_init 4 none 2 25 961 [.ref v, .int pid, .int pr] S (pm_qv (fun S2 => ∃ a t r m k l b c e : Nat, ∃ tt rr : Nat → Nat, nV S2 v a t m l pid pr ∧ nP S2 a t r m k l b c e ∧ (∀ j, j < 8 → pm_z S2 a j = some (tt j) ∧ pm_tm S2 (tt j) (rr j) [0, 0] ∧ pm_k S (tt j) = 0 ∧ pm_k S (rr j) = 0) ∧ (∀ b, pm_k S b ≠ 0 → b ≠ v → pm_e8 S S2 b) ∧ (pm_k S a = 0 ∧ pm_k S t = 0 ∧ pm_k S r = 0 ∧ pm_k S m = 0 ∧ pm_k S k = 0 ∧ pm_k S l = 0 ∧ pm_k S b = 0 ∧ pm_k S c = 0 ∧ pm_k S e = 0) ∧ (a ≠ k ∧ b ≠ c ∧ b ≠ e ∧ c ≠ e ∧ r ≠ b ∧ r ≠ c ∧ r ≠ e) ∧ (∀ j, j < 8 → tt j ≠ t ∧ rr j ≠ r ∧ rr j ≠ b ∧ rr j ≠ c ∧ rr j ≠ e) ∧ ∀ i j, i < 8 → j < 8 → (tt i = tt j → i = j) ∧ (rr i = rr j → i = j))) := by
  refine pm_Mv (L := [.ref v, .int pid, .int pr, pm_u]) true (by decide +kernel) (fun _ => rfl) rfl (pm_en_1 rfl (pm_en_1 rfl (pm_en_1 rfl (pm_en_0 rfl)))) ?_
  generalize hQ9 : pm_xv (fun S2 => ∃ a t r m k l b c e : Nat, ∃ tt rr : Nat → Nat, nV S2 v a t m l pid pr ∧ nP S2 a t r m k l b c e ∧ (∀ j, j < 8 → pm_z S2 a j = some (tt j) ∧ pm_tm S2 (tt j) (rr j) [0, 0] ∧ pm_k S (tt j) = 0 ∧ pm_k S (rr j) = 0) ∧ (∀ b, pm_k S b ≠ 0 → b ≠ v → pm_e8 S S2 b) ∧ (pm_k S a = 0 ∧ pm_k S t = 0 ∧ pm_k S r = 0 ∧ pm_k S m = 0 ∧ pm_k S k = 0 ∧ pm_k S l = 0 ∧ pm_k S b = 0 ∧ pm_k S c = 0 ∧ pm_k S e = 0) ∧ (a ≠ k ∧ b ≠ c ∧ b ≠ e ∧ c ≠ e ∧ r ≠ b ∧ r ≠ c ∧ r ≠ e) ∧ (∀ j, j < 8 → tt j ≠ t ∧ rr j ≠ r ∧ rr j ≠ b ∧ rr j ≠ c ∧ rr j ≠ e) ∧ ∀ i j, i < 8 → j < 8 → (tt i = tt j → i = j) ∧ (rr i = rr j → i = j)) = Q9
  refine pm_aload_n dX1_init_0 rfl ?_
  refine pm_objInit pm_m_X1_3 pm_oi pm_oc (by decide) (Nat.le_of_ble_eq_true rfl) dX1_init_1 ?_
  refine pm_aload_n dX1_init_4 rfl ?_
  refine pm_bipush (v := 8) dX1_init_5 (by decide) ?_
  refine pm_anewT (N := 8) rfl (by decide) pm_c_X1_9 (kc' := 24) (ks' := 953) (by decide) (by decide) dX1_init_7 (fun r7 hf7 hb7 => ?_)
  have n7 : v ≠ r7 := fun e => by rw [e, hf7] at hk; cases hk
  refine pm_p_Proc_registers (by rw [pm_k_nw, if_neg n7]; exact hk) pm_f_X1_11 rfl rfl pm_fw_X1_11 dX1_init_10 ?_
  have fr1 : (∀ b, pm_k S b ≠ 0 → b ≠ v → pm_e8 S (pm_sp (pm_nw S r7 13 8) 52 v (some r7)) b) := fun b hb hv => e8_tr (e8_nw (fun e => hb (by rw [e]; exact hf7))) (e8_sp hv)
  have kv1 : pm_k (pm_sp (pm_nw S r7 13 8) 52 v (some r7)) v = 2 := by rw [pm_k_sp, pm_k_nw, if_neg n7]; exact hk
  have pv1 : pm_p (pm_sp (pm_nw S r7 13 8) 52 v (some r7)) 52 v = some r7 := by rw [pm_p_sp, if_pos ⟨rfl, rfl⟩]
  have a1 : pm_k (pm_sp (pm_nw S r7 13 8) 52 v (some r7)) r7 = 13 ∧ pm_n (pm_sp (pm_nw S r7 13 8) 52 v (some r7)) r7 = 8 := by rw [pm_k_sp, pm_k_nw, if_pos rfl, pm_n_sp, pm_n_nw, if_pos rfl]; exact ⟨rfl, rfl⟩
  generalize pm_sp (pm_nw S r7 13 8) 52 v (some r7) = S1 at fr1 kv1 pv1 a1 ⊢
  have fresh1 : ∀ d, pm_k S1 d = 0 → pm_k S d = 0 := fun d hd => by
    by_cases e : d = v
    · rw [e, kv1] at hd; cases hd
    · by_cases e2 : pm_k S d = 0
      · exact e2
      · rw [(fr1 d e2 e).1] at hd; exact absurd hd e2
  refine pm_aload_n dX1_init_13 rfl ?_
  refine pm_new_Term pm_c_X1_9 (kc' := 23) (ks' := 951) (by decide) (by decide) dX1_init_14 (fun a14 hf14 hb14 => ?_)
  refine pm_dup dX1_init_17 ?_
  refine pm_callI (c_X3_init G l bs a14 (pm_nw S1 a14 4 0) (by rw [pm_k_nw, if_pos rfl])) pm_y_X3_init pm_i_X3_init rfl (Or.inr ⟨_, pm_m_X1_17⟩) rfl (by decide) (kc2 := 22) (ks2 := 856) (by decide) (by decide) (Nat.le_of_ble_eq_true rfl) dX1_init_18 rfl (fun v18 S18 h18 => ?_)
  obtain ⟨rfl, h18⟩ := h18
  dsimp only [Option.toList, List.nil_append]
  obtain ⟨r, hfr, hbr, e18⟩ := h18
  obtain ⟨g1, g2, g3, g4⟩ := sTm_of hf14 hfr
  have e18 : S18 = sTm S1 a14 r := e18
  rw [← e18] at g3 g4
  have kv18 : pm_k S18 v = 2 := (g4 v (by rw [kv1]; decide)).1.trans kv1
  refine pm_p_Proc_reason kv18 pm_f_X1_18 rfl rfl pm_fw_X1_18 dX1_init_21 ?_
  have nvt : a14 ≠ v := fun e => by rw [e, kv1] at hf14; cases hf14
  have nvr : r ≠ v := fun e => by rw [e, kv1] at g1; cases g1
  have fr2 : (∀ b, pm_k S b ≠ 0 → b ≠ v → pm_e8 S (pm_sp S18 53 v (some a14)) b) := fun b hb hv => e8_tr (e8_tr (fr1 b hb hv) (g4 b (by rw [(fr1 b hb hv).1]; exact hb))) (e8_sp hv)
  have t2 : pm_tm (pm_sp S18 53 v (some a14)) a14 r [0, 0] := g3.mv (e8_7 (e8_sp nvt)) (e8_7 (e8_sp nvr))
  have ea1 := g4 r7 (by rw [a1.1]; decide)
  have a2 : pm_k (pm_sp S18 53 v (some a14)) r7 = 13 ∧ pm_n (pm_sp S18 53 v (some a14)) r7 = 8 := ⟨ea1.1.trans a1.1, ea1.2.1.trans a1.2⟩
  have ev := g4 v (by rw [kv1]; decide)
  have pv2 : pm_p (pm_sp S18 53 v (some a14)) 52 v = some r7 ∧ pm_p (pm_sp S18 53 v (some a14)) 53 v = some a14 := ⟨by rw [pm_p_sp, if_neg (by omega), ev.2.2.2.2.1]; exact pv1, by rw [pm_p_sp, if_pos ⟨rfl, rfl⟩]⟩
  have kv2 : pm_k (pm_sp S18 53 v (some a14)) v = 2 := kv18
  have f14 := fresh1 a14 hf14
  have fR := fresh1 r g1
  generalize pm_sp S18 53 v (some a14) = S2 at fr2 t2 a2 pv2 kv2 ⊢
  have fresh2 : ∀ d, pm_k S2 d = 0 → pm_k S d = 0 := fun d hd => by
    by_cases e : d = v
    · rw [e, kv2] at hd; cases hd
    · by_cases e2 : pm_k S d = 0
      · exact e2
      · rw [(fr2 d e2 e).1] at hd; exact absurd hd e2
  refine pm_aload_n dX1_init_24 rfl ?_
  refine pm_new_Mailbox pm_c_X1_22 (kc' := 21) (ks' := 853) (by decide) (by decide) dX1_init_25 (fun a25 hf25 hb25 => ?_)
  refine pm_dup dX1_init_28 ?_
  refine pm_callI (c_X0_init G l bs a25 (pm_nw S2 a25 1 0) (by rw [pm_k_nw, if_pos rfl])) pm_y_X0_init pm_i_X0_init rfl (Or.inr ⟨_, pm_m_X1_24⟩) rfl (by decide) (kc2 := 20) (ks2 := 813) (by decide) (by decide) (Nat.le_of_ble_eq_true rfl) dX1_init_29 rfl (fun v29 S29 h29 => ?_)
  obtain ⟨rfl, h29⟩ := h29
  dsimp only [Option.toList, List.nil_append]
  obtain ⟨k, hfk, hbk, e29⟩ := h29
  obtain ⟨m1, m2, m3, m4, m5, m6, m7⟩ := sMb_of hf25 hfk
  rw [← e29] at m3 m4 m5 m6 m7
  have kv29 : pm_k S29 v = 2 := (m7 v (by rw [kv2]; decide)).1.trans kv2
  refine pm_p_Proc_box kv29 pm_f_X1_25 rfl rfl pm_fw_X1_25 dX1_init_32 ?_
  have nvm : a25 ≠ v := fun e => by rw [e, kv2] at hf25; cases hf25
  have nvk : k ≠ v := fun e => by rw [e, kv2] at m1; cases m1
  have nak : r7 ≠ k := fun e => by rw [← e, a2.1] at m1; cases m1
  have fr3 : (∀ b, pm_k S b ≠ 0 → b ≠ v → pm_e8 S (pm_sp S29 54 v (some a25)) b) := fun b hb hv => e8_tr (e8_tr (fr2 b hb hv) (m7 b (by rw [(fr2 b hb hv).1]; exact hb))) (e8_sp hv)
  have et := m7 a14 (by rw [t2.1.1]; decide)
  have er := m7 r (by rw [t2.1.2.2.1]; decide)
  have t3 : pm_tm (pm_sp S29 54 v (some a25)) a14 r [0, 0] := t2.mv (e8_7 (e8_tr et (e8_sp nvt))) (e8_7 (e8_tr er (e8_sp nvr)))
  have ea1 := m7 r7 (by rw [a2.1]; decide)
  have a3 : pm_k (pm_sp S29 54 v (some a25)) r7 = 13 ∧ pm_n (pm_sp S29 54 v (some a25)) r7 = 8 := ⟨ea1.1.trans a2.1, ea1.2.1.trans a2.2⟩
  have ev := m7 v (by rw [kv2]; decide)
  have pv3 : pm_p (pm_sp S29 54 v (some a25)) 52 v = some r7 ∧ pm_p (pm_sp S29 54 v (some a25)) 53 v = some a14 ∧ pm_p (pm_sp S29 54 v (some a25)) 54 v = some a25 := ⟨by rw [pm_p_sp, if_neg (by omega), ev.2.2.2.2.1]; exact pv2.1, by rw [pm_p_sp, if_neg (by omega), ev.2.2.2.2.1]; exact pv2.2, by rw [pm_p_sp, if_pos ⟨rfl, rfl⟩]⟩
  have kv3 : pm_k (pm_sp S29 54 v (some a25)) v = 2 := kv29
  have mb3 : pm_mb (pm_sp S29 54 v (some a25)) a25 k ∧ pm_i (pm_sp S29 54 v (some a25)) 1 a25 = 0 ∧ pm_i (pm_sp S29 54 v (some a25)) 2 a25 = 0 ∧ ∀ i, pm_z (pm_sp S29 54 v (some a25)) k i = none := ⟨m3.mv (e8_sp nvm) (e8_sp nvk), m4, m5, m6⟩
  have f25 := fresh2 a25 hf25
  have fK := fresh2 k m1
  generalize pm_sp S29 54 v (some a25) = S3 at fr3 t3 a3 pv3 kv3 mb3 ⊢
  have fresh3 : ∀ d, pm_k S3 d = 0 → pm_k S d = 0 := fun d hd => by
    by_cases e : d = v
    · rw [e, kv3] at hd; cases hd
    · by_cases e2 : pm_k S d = 0
      · exact e2
      · rw [(fr3 d e2 e).1] at hd; exact absurd hd e2
  refine pm_aload_n dX1_init_35 rfl ?_
  refine pm_new_Trail pm_c_X1_29 (kc' := 19) (ks' := 808) (by decide) (by decide) dX1_init_36 (fun a36 hf36 hb36 => ?_)
  refine pm_dup dX1_init_39 ?_
  refine pm_callI (c_X4_init G l bs a36 (pm_nw S3 a36 5 0) (by rw [pm_k_nw, if_pos rfl])) pm_y_X4_init pm_i_X4_init rfl (Or.inr ⟨_, pm_m_X1_31⟩) rfl (by decide) (kc2 := 16) (ks2 := 776) (by decide) (by decide) (Nat.le_of_ble_eq_true rfl) dX1_init_40 rfl (fun v40 S40 h40 => ?_)
  obtain ⟨rfl, h40⟩ := h40
  dsimp only [Option.toList, List.nil_append]
  obtain ⟨b, c, e, q1, -, q2, -, q3, -, e40⟩ := h40
  obtain ⟨l1, l2, l3, l4, l5, l6, l7, l8, l9, l10⟩ := sTr_of hf36 q1 q2 q3 S40 e40
  have kv40 : pm_k S40 v = 2 := (l10 v (by rw [kv3]; decide)).1.trans kv3
  refine pm_p_Proc_trail kv40 pm_f_X1_32 rfl rfl pm_fw_X1_32 dX1_init_43 ?_
  have nvl : a36 ≠ v := fun z => by rw [z, kv3] at hf36; cases hf36
  have nvb : b ≠ v := fun z => by rw [z, kv3] at l1; cases l1
  have nvc : c ≠ v := fun z => by rw [z, kv3] at l2; cases l2
  have nve : e ≠ v := fun z => by rw [z, kv3] at l3; cases l3
  have nrb : r ≠ b := fun z => by rw [← z, t3.1.2.2.1] at l1; cases l1
  have nrc : r ≠ c := fun z => by rw [← z, t3.1.2.2.1] at l2; cases l2
  have nre : r ≠ e := fun z => by rw [← z, t3.1.2.2.1] at l3; cases l3
  have fr4 : (∀ b, pm_k S b ≠ 0 → b ≠ v → pm_e8 S (pm_sp S40 55 v (some a36)) b) := fun b hb hv => e8_tr (e8_tr (fr3 b hb hv) (l10 b (by rw [(fr3 b hb hv).1]; exact hb))) (e8_sp hv)
  have et := l10 a14 (by rw [t3.1.1]; decide)
  have er := l10 r (by rw [t3.1.2.2.1]; decide)
  have em := l10 a25 (by rw [mb3.1.1]; decide)
  have ek := l10 k (by rw [mb3.1.2.2.1]; decide)
  have ea1 := l10 r7 (by rw [a3.1]; decide)
  have ev := l10 v (by rw [kv3]; decide)
  have nva : r7 ≠ v := fun z => by rw [z, kv3] at a3; cases a3.1
  have np4 : nP (pm_sp S40 55 v (some a36)) r7 a14 r a25 k a36 b c e := ⟨⟨ea1.1.trans a3.1, ea1.2.1.trans a3.2⟩, t3.mv (e8_7 (e8_tr et (e8_sp nvt))) (e8_7 (e8_tr er (e8_sp nvr))), ⟨mb3.1.mv (e8_tr em (e8_sp nvm)) (e8_tr ek (e8_sp nvk)), (em.2.2.1 _).trans mb3.2.1, (em.2.2.1 _).trans mb3.2.2.1, fun i => (ek.2.2.2.2.2.2.2 i).trans (mb3.2.2.2 i)⟩, l7.mv (e8_sp nvl) (e8_sp nvb) (e8_sp nvc) (e8_sp nve), l8, l9⟩
  have pv4 : pm_p (pm_sp S40 55 v (some a36)) 52 v = some r7 ∧ pm_p (pm_sp S40 55 v (some a36)) 53 v = some a14 ∧ pm_p (pm_sp S40 55 v (some a36)) 54 v = some a25 ∧ pm_p (pm_sp S40 55 v (some a36)) 55 v = some a36 := ⟨by rw [pm_p_sp, if_neg (by omega), ev.2.2.2.2.1]; exact pv3.1, by rw [pm_p_sp, if_neg (by omega), ev.2.2.2.2.1]; exact pv3.2.1, by rw [pm_p_sp, if_neg (by omega), ev.2.2.2.2.1]; exact pv3.2.2, by rw [pm_p_sp, if_pos ⟨rfl, rfl⟩]⟩
  have kv4 : pm_k (pm_sp S40 55 v (some a36)) v = 2 := kv40
  have f36 := fresh3 a36 hf36
  have fB := fresh3 b l1
  have fC := fresh3 c l2
  have fE := fresh3 e l3
  generalize pm_sp S40 55 v (some a36) = S4 at fr4 np4 pv4 kv4 ⊢
  refine pm_aload_n dX1_init_46 rfl ?_
  refine pm_iconst (v := 0) dX1_init_47 (by decide) ?_
  refine pm_p_Proc_state (by (try simp only [pm_k_si, pm_k_sj, pm_k_sp, pm_k_sx, pm_k_sz, pm_k_sr, pm_k_sy]); assumption) pm_f_X1_36 dX1_init_48 ?_
  refine pm_aload_n dX1_init_51 rfl ?_
  refine pm_iconst (v := 0) dX1_init_52 (by decide) ?_
  refine pm_p_Proc_at (by (try simp only [pm_k_si, pm_k_sj, pm_k_sp, pm_k_sx, pm_k_sz, pm_k_sr, pm_k_sy]); assumption) pm_f_X1_40 dX1_init_53 ?_
  refine pm_aload_n dX1_init_56 rfl ?_
  refine pm_iconst (v := 0) dX1_init_57 (by decide) ?_
  refine pm_p_Proc_atIfMail (by (try simp only [pm_k_si, pm_k_sj, pm_k_sp, pm_k_sx, pm_k_sz, pm_k_sr, pm_k_sy]); assumption) pm_f_X1_43 dX1_init_58 ?_
  refine pm_aload_n dX1_init_61 rfl ?_
  refine pm_iconst (v := 0) dX1_init_62 (by decide) ?_
  refine pm_p_Proc_atIfLate (by (try simp only [pm_k_si, pm_k_sj, pm_k_sp, pm_k_sx, pm_k_sz, pm_k_sr, pm_k_sy]); assumption) pm_f_X1_46 dX1_init_63 ?_
  refine pm_aload_n dX1_init_66 rfl ?_
  refine pm_ldc2 pm_cl_X1_49 dX1_init_67 ?_
  refine pm_p_Proc_deadline (by (try simp only [pm_k_si, pm_k_sj, pm_k_sp, pm_k_sx, pm_k_sz, pm_k_sr, pm_k_sy]); assumption) pm_f_X1_51 dX1_init_70 ?_
  refine pm_aload_n dX1_init_73 rfl ?_
  refine pm_iconst (v := 0) dX1_init_74 (by decide) ?_
  refine pm_p_Proc_turn (by (try simp only [pm_k_si, pm_k_sj, pm_k_sp, pm_k_sx, pm_k_sz, pm_k_sr, pm_k_sy]); assumption) pm_f_X1_55 dX1_init_75 ?_
  refine pm_aload_n dX1_init_78 rfl ?_
  refine pm_iconst (v := (-1)) dX1_init_79 (by decide) ?_
  refine pm_p_Proc_name (by (try simp only [pm_k_si, pm_k_sj, pm_k_sp, pm_k_sx, pm_k_sz, pm_k_sr, pm_k_sy]); assumption) pm_f_X1_58 dX1_init_80 ?_
  refine pm_aload_n dX1_init_83 rfl ?_
  refine pm_iconst (v := 0) dX1_init_84 (by decide) ?_
  refine pm_p_Proc_traps (by (try simp only [pm_k_si, pm_k_sj, pm_k_sp, pm_k_sx, pm_k_sz, pm_k_sr, pm_k_sy]); assumption) pm_f_X1_61 (Or.inl rfl) dX1_init_85 ?_
  refine pm_aload_n dX1_init_88 rfl ?_
  refine pm_lconst (v := 0) dX1_init_89 (by decide) ?_
  refine pm_p_Proc_links (by (try simp only [pm_k_si, pm_k_sj, pm_k_sp, pm_k_sx, pm_k_sz, pm_k_sr, pm_k_sy]); assumption) pm_f_X1_65 dX1_init_90 ?_
  refine pm_aload_n dX1_init_93 rfl ?_
  refine pm_iconst (v := 0) dX1_init_94 (by decide) ?_
  refine pm_p_Proc_wordsDone (by (try simp only [pm_k_si, pm_k_sj, pm_k_sp, pm_k_sx, pm_k_sz, pm_k_sr, pm_k_sy]); assumption) pm_f_X1_68 dX1_init_95 ?_
  refine pm_aload_n dX1_init_98 rfl ?_
  refine pm_iload_n dX1_init_99 rfl ?_
  refine pm_p_Proc_pid (by (try simp only [pm_k_si, pm_k_sj, pm_k_sp, pm_k_sx, pm_k_sz, pm_k_sr, pm_k_sy]); assumption) pm_f_X1_71 rfl rfl pm_fw_X1_71 dX1_init_100 ?_
  refine pm_aload_n dX1_init_103 rfl ?_
  refine pm_iload_n dX1_init_104 rfl ?_
  refine pm_p_Proc_priority (by (try simp only [pm_k_si, pm_k_sj, pm_k_sp, pm_k_sx, pm_k_sz, pm_k_sr, pm_k_sy]); assumption) pm_f_X1_74 rfl rfl pm_fw_X1_74 dX1_init_105 ?_
  have nv5 : nV (s12 S4 v pid pr) v r7 a14 a25 a36 pid pr := s12_nv pid pr kv4 pv4.1 pv4.2.1 pv4.2.2.1 pv4.2.2.2
  have fr5 : ∀ d, d ≠ v → pm_e8 S4 (s12 S4 v pid pr) d := fun d hd => s12_e8 hd
  rw [show (pm_si (pm_si (pm_si (pm_sj (pm_si (pm_si (pm_si (pm_sj (pm_si (pm_si (pm_si (pm_si S4 56 v 0) 57 v 0) 58 v 0) 59 v 0) 60 v 9223372036854775807) 61 v 0) 62 v (-1)) 63 v 0) 64 v 0) 65 v 0) 50 v pid) 51 v pr) = s12 S4 v pid pr from rfl]
  generalize s12 S4 v pid pr = S6 at fr5 nv5 ⊢
  have np5 : nP S6 r7 a14 r a25 k a36 b c e := by
    obtain ⟨⟨x1, x2⟩, y1, ⟨c1, c2, c3, c4⟩, d1, d2, d3⟩ := np4
    exact ⟨⟨(fr5 r7 nva).1.trans x1, (fr5 r7 nva).2.1.trans x2⟩, y1.mv (e8_7 (fr5 a14 nvt)) (e8_7 (fr5 r nvr)), ⟨c1.mv (fr5 a25 nvm) (fr5 k nvk), ((fr5 a25 nvm).2.2.1 _).trans c2, ((fr5 a25 nvm).2.2.1 _).trans c3, fun i => ((fr5 k nvk).2.2.2.2.2.2.2 i).trans (c4 i)⟩, d1.mv (fr5 a36 nvl) (fr5 b nvb) (fr5 c nvc) (fr5 e nve), ((fr5 a36 nvl).2.2.1 _).trans d2, ((fr5 a36 nvl).2.2.1 _).trans d3⟩
  have fr6 : (∀ b, pm_k S b ≠ 0 → b ≠ v → pm_e8 S S6 b) := fun d hd hv => e8_tr (fr4 d hd hv) (fr5 d hv)
  refine pm_iconst (v := 0) dX1_init_108 (by decide) ?_
  refine pm_istn dX1_init_109 (i := 3) rfl (by decide) ?_
  dsimp only [List.set]
  exact c_X1_initL G l bs v r7 a14 r a25 k a36 b c e pid pr S hf7 nak Q9 (fun S9 tt rr y1 y2 y3 y4 y5 y6 => by
    subst hQ9
    exact ⟨rfl, rfl, r7, a14, r, a25, k, a36, b, c, e, tt, rr, y1, y2, y3, y4, ⟨hf7, f14, fR, f25, fK, f36, fB, fC, fE⟩, ⟨nak, l4, l5, l6, nrb, nrc, nre⟩, y5, y6⟩) 8 0 S6 (fun _ => 0) (fun _ => 0) rfl nv5 np5 (fun i hi => absurd hi (by omega)) fr6 (fun i hi => absurd hi (by omega)) (fun i i2 hi => absurd hi (by omega))

