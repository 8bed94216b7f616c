/-! how many bits a long has -/
def cntf (f : Nat → Bool) : Nat → Nat
  | 0 => 0
  | k + 1 => cntf f k + (if f k = true then 1 else 0)
theorem cntf_cg {f g : Nat → Bool} : ∀ k, (∀ i, i < k → f i = g i) → cntf f k = cntf g k
  | 0, _ => rfl
  | k + 1, h => by
    unfold cntf
    rw [cntf_cg k (fun i hi => h i (by omega)), h k (by omega)]
theorem cntf_add (f : Nat → Bool) (a : Nat) : ∀ b, cntf f (a + b) = cntf f a + cntf (fun i => f (a + i)) b
  | 0 => rfl
  | b + 1 => by
    show cntf f (a + b) + _ = cntf f a + (cntf (fun i => f (a + i)) b + _)
    rw [cntf_add f a b, Nat.add_assoc]; rfl
theorem cntf_0 {f : Nat → Bool} : ∀ k, (∀ i, i < k → f i = false) → cntf f k = 0
  | 0, _ => rfl
  | k + 1, h => by
    unfold cntf
    rw [cntf_0 k (fun i hi => h i (by omega)), h k (by omega)]; rfl
theorem cntf_le (f : Nat → Bool) : ∀ k, cntf f k ≤ k
  | 0 => Nat.le_refl _
  | k + 1 => by
    unfold cntf
    have := cntf_le f k
    split <;> omega
theorem bt_tb {a b : Nat} (hb : b < 256) (j : Nat) : (256 * a + b).testBit j = if j < 8 then b.testBit j else a.testBit (j - 8) := Nat.testBit_two_pow_mul_add (i := 8) a hb j
theorem bt_and {a m r s : Nat} (hr : r < 256) (hs : s < 256) : (256 * a + r) &&& (256 * m + s) = 256 * (a &&& m) + (r &&& s) := by
  have h : r &&& s < 256 := Nat.lt_of_le_of_lt Nat.and_le_left hr
  refine Nat.eq_of_testBit_eq fun j => ?_
  rw [Nat.testBit_and, bt_tb hr, bt_tb hs, bt_tb h]
  split
  · rw [Nat.testBit_and]
  · rw [Nat.testBit_and]
theorem bt_cnt {a b k : Nat} (hb : b < 256) : cntf (256 * a + b).testBit (8 + k) = cntf b.testBit 8 + cntf a.testBit k := by
  rw [cntf_add]
  congr 1
  · exact cntf_cg 8 (fun i hi => by rw [bt_tb hb, if_pos hi])
  · exact cntf_cg k (fun i hi => by rw [bt_tb hb, if_neg (by omega), show 8 + i - 8 = i from by omega])
def mk8 (s : Nat) : Nat → Nat
  | 0 => 0
  | n + 1 => 256 * mk8 s n + s
def g1 (m v : Nat) : Nat := v - ((v / 2) &&& m)
def g2 (m x : Nat) : Nat := (x &&& m) + ((x / 4) &&& m)
def g3 (m y : Nat) : Nat := (y + y / 16) &&& m
def pc8 (b : Nat) : Nat := g3 15 (g2 51 (g1 85 b))
theorem bt_85 : ∀ c, c < 2 → ∀ d, d < 128 → (128 * c + d) &&& 85 = d &&& 85 := by decide +kernel
theorem bt_51 : ∀ c, c < 4 → ∀ d, d < 64 → (64 * c + d) &&& 51 = d &&& 51 := by decide +kernel
theorem bt_by : ∀ b, b < 256 → g1 85 b < 256 ∧ g2 51 (g1 85 b) % 16 ≤ 4 ∧ g2 51 (g1 85 b) / 16 ≤ 4 ∧ pc8 b = cntf b.testBit 8 := by decide +kernel
theorem g1_s {m v b : Nat} (hb : b < 256) : g1 (256 * m + 85) (256 * v + b) = 256 * g1 m v + g1 85 b := by
  unfold g1
  have e : (256 * v + b) / 2 = 256 * (v / 2) + (128 * (v % 2) + b / 2) := by omega
  rw [e, bt_and (by omega) (by omega), bt_85 _ (by omega) _ (by omega)]
  have h1 : (v / 2) &&& m ≤ v / 2 := Nat.and_le_left
  have h2 : (b / 2) &&& 85 ≤ b / 2 := Nat.and_le_left
  omega
theorem g2_s {m x c : Nat} (hc : c < 256) : g2 (256 * m + 51) (256 * x + c) = 256 * g2 m x + g2 51 c := by
  unfold g2
  have e : (256 * x + c) / 4 = 256 * (x / 4) + (64 * (x % 4) + c / 4) := by omega
  rw [e, bt_and (by omega) (by omega), bt_and (by omega) (by omega), bt_51 _ (by omega) _ (by omega)]
  omega
theorem g3_s {m y e : Nat} (hy : y % 16 ≤ 4) (he : e % 16 ≤ 4) (he2 : e / 16 ≤ 4) : g3 (256 * m + 15) (256 * y + e) = 256 * g3 m y + g3 15 e := by
  unfold g3
  have q : 256 * y + e + (256 * y + e) / 16 = 256 * (y + y / 16) + (e + e / 16 + 16 * (y % 16)) := by omega
  have a15 : ∀ n, n &&& 15 = n % 16 := fun n => Nat.and_two_pow_sub_one_eq_mod n 4
  rw [q, bt_and (by omega) (by omega), a15, a15]
  omega
def pcN (n v : Nat) : Nat := g3 (mk8 15 n) (g2 (mk8 51 n) (g1 (mk8 85 n) v))
theorem pcN_s {n v b : Nat} (hb : b < 256) (hv : g2 (mk8 51 n) (g1 (mk8 85 n) v) % 16 ≤ 4) : pcN (n + 1) (256 * v + b) = 256 * pcN n v + cntf b.testBit 8 ∧ g2 (mk8 51 (n + 1)) (g1 (mk8 85 (n + 1)) (256 * v + b)) % 16 ≤ 4 := by
  obtain ⟨h1, h2, h3, h4⟩ := bt_by b hb
  unfold pcN
  rw [mk8, mk8, mk8, g1_s hb, g2_s h1, g3_s hv h2 h3, ← h4]
  exact ⟨rfl, by omega⟩
theorem pt0 (a b c d e f g h : Nat) : 256 * (256 * (256 * (256 * (256 * (256 * (256 * (256 * 0 + h) + g) + f) + e) + d) + c) + b) + a = a + 256 * (b + 256 * (c + 256 * (d + 256 * (e + 256 * (f + 256 * (g + 256 * h)))))) := by omega
theorem pt00 (a b c d e f g h : Nat) : a + (b + (c + (d + (e + (f + (g + (h + 0))))))) = a + b + c + d + e + f + g + h := by omega
theorem pcN_8 {v : Nat} (hv : v < 18446744073709551616) : ∃ p0 p1 p2 p3 p4 p5 p6 p7 : Nat, pcN 8 v = p0 + 256 * (p1 + 256 * (p2 + 256 * (p3 + 256 * (p4 + 256 * (p5 + 256 * (p6 + 256 * p7)))))) ∧ (p0 ≤ 8 ∧ p1 ≤ 8 ∧ p2 ≤ 8 ∧ p3 ≤ 8 ∧ p4 ≤ 8 ∧ p5 ≤ 8 ∧ p6 ≤ 8 ∧ p7 ≤ 8) ∧ cntf v.testBit 64 = p0 + p1 + p2 + p3 + p4 + p5 + p6 + p7 := by
  have z0 : g2 (mk8 51 0) (g1 (mk8 85 0) 0) % 16 ≤ 4 := by decide
  have sp : ∀ w : Nat, 256 * (w / 256) + w % 256 = w := fun w => by omega
  have st : ∀ n w, g2 (mk8 51 n) (g1 (mk8 85 n) (w / 256)) % 16 ≤ 4 → pcN (n + 1) w = 256 * pcN n (w / 256) + cntf (w % 256).testBit 8 ∧ g2 (mk8 51 (n + 1)) (g1 (mk8 85 (n + 1)) w) % 16 ≤ 4 := fun n w h => by
    have := pcN_s (b := w % 256) (Nat.mod_lt _ (by decide)) h
    rw [sp w] at this
    exact this
  have ct : ∀ k w, cntf w.testBit (8 + k) = cntf (w % 256).testBit 8 + cntf (w / 256).testBit k := fun k w => by
    have := bt_cnt (a := w / 256) (k := k) (Nat.mod_lt w (show 0 < 256 by decide))
    rw [sp w] at this
    exact this
  have z8 : v / 256 / 256 / 256 / 256 / 256 / 256 / 256 / 256 = 0 := by
    rw [Nat.div_div_eq_div_mul, Nat.div_div_eq_div_mul, Nat.div_div_eq_div_mul, Nat.div_div_eq_div_mul, Nat.div_div_eq_div_mul, Nat.div_div_eq_div_mul, Nat.div_div_eq_div_mul]
    exact Nat.div_eq_of_lt hv
  have a1 := st 0 (v / 256 / 256 / 256 / 256 / 256 / 256 / 256) (by rw [z8]; exact z0)
  have a2 := st 1 _ a1.2
  have a3 := st 2 _ a2.2
  have a4 := st 3 _ a3.2
  have a5 := st 4 _ a4.2
  have a6 := st 5 _ a5.2
  have a7 := st 6 _ a6.2
  have a8 := st 7 _ a7.2
  have p0 : pcN 0 (v / 256 / 256 / 256 / 256 / 256 / 256 / 256 / 256) = 0 := by rw [z8]; decide
  refine ⟨_, _, _, _, _, _, _, _, ?_, ⟨cntf_le (v % 256).testBit 8, cntf_le (v / 256 % 256).testBit 8, cntf_le (v / 256 / 256 % 256).testBit 8, cntf_le (v / 256 / 256 / 256 % 256).testBit 8, cntf_le (v / 256 / 256 / 256 / 256 % 256).testBit 8, cntf_le (v / 256 / 256 / 256 / 256 / 256 % 256).testBit 8, cntf_le (v / 256 / 256 / 256 / 256 / 256 / 256 % 256).testBit 8, cntf_le (v / 256 / 256 / 256 / 256 / 256 / 256 / 256 % 256).testBit 8⟩, ?_⟩
  · rw [a8.1, a7.1, a6.1, a5.1, a4.1, a3.1, a2.1, a1.1, p0]
    exact pt0 _ _ _ _ _ _ _ _
  · have c0 := ct 56 v
    have c1 := ct 48 (v / 256)
    have c2 := ct 40 (v / 256 / 256)
    have c3 := ct 32 (v / 256 / 256 / 256)
    have c4 := ct 24 (v / 256 / 256 / 256 / 256)
    have c5 := ct 16 (v / 256 / 256 / 256 / 256 / 256)
    have c6 := ct 8 (v / 256 / 256 / 256 / 256 / 256 / 256)
    have c7 := ct 0 (v / 256 / 256 / 256 / 256 / 256 / 256 / 256)
    rw [show (64 : Nat) = 8 + 56 from rfl, c0, show (56 : Nat) = 8 + 48 from rfl, c1, show (48 : Nat) = 8 + 40 from rfl, c2, show (40 : Nat) = 8 + 32 from rfl, c3, show (32 : Nat) = 8 + 24 from rfl, c4, show (24 : Nat) = 8 + 16 from rfl, c5, show (16 : Nat) = 8 + 8 from rfl, c6]
    have c7b : cntf (v / 256 / 256 / 256 / 256 / 256 / 256 / 256).testBit 8 = cntf (v / 256 / 256 / 256 / 256 / 256 / 256 / 256 % 256).testBit 8 + 0 := c7
    rw [c7b]
    exact pt00 _ _ _ _ _ _ _ _
theorem pt1 {p r : Nat} (h : p < 256) : (p + 256 * r) / 256 = r := by omega
theorem pt2 {a q : Nat} (h : a < 65536) : (a + 65536 * q) / 65536 = q := by omega
theorem pt3 {w u : Nat} (h : w < 4294967296) : (w + 4294967296 * u) / 4294967296 = u := by omega
theorem pt4 {s y : Nat} (h : s < 128) : (s + 256 * y) % 128 = s := by omega
theorem pl4 (p0 p1 p2 p3 p4 p5 p6 p7 : Nat) : (p0 + 256 * (p1 + 256 * (p2 + 256 * (p3 + 256 * (p4 + 256 * (p5 + 256 * (p6 + 256 * p7))))))) + (p1 + 256 * (p2 + 256 * (p3 + 256 * (p4 + 256 * (p5 + 256 * (p6 + 256 * p7)))))) = ((p0 + p1) + 256 * (p1 + p2)) + 65536 * ((p2 + p3) + 256 * ((p3 + p4) + 256 * ((p4 + p5) + 256 * ((p5 + p6) + 256 * ((p6 + p7) + 256 * p7))))) := by omega
theorem pl5 (p0 p1 p2 p3 p4 p5 p6 p7 : Nat) : ((p0 + p1) + 256 * (p1 + p2)) + 65536 * ((p2 + p3) + 256 * ((p3 + p4) + 256 * ((p4 + p5) + 256 * ((p5 + p6) + 256 * ((p6 + p7) + 256 * p7))))) + ((p2 + p3) + 256 * ((p3 + p4) + 256 * ((p4 + p5) + 256 * ((p5 + p6) + 256 * ((p6 + p7) + 256 * p7))))) = ((p0 + p1 + p2 + p3) + 256 * ((p1 + p2 + p3 + p4) + 256 * ((p2 + p3 + p4 + p5) + 256 * (p3 + p4 + p5 + p6)))) + 4294967296 * ((p4 + p5 + p6 + p7) + 256 * ((p5 + p6 + p7) + 256 * ((p6 + p7) + 256 * p7))) := by omega
theorem pl6 (p0 p1 p2 p3 p4 p5 p6 p7 : Nat) : ((p0 + p1 + p2 + p3) + 256 * ((p1 + p2 + p3 + p4) + 256 * ((p2 + p3 + p4 + p5) + 256 * (p3 + p4 + p5 + p6)))) + 4294967296 * ((p4 + p5 + p6 + p7) + 256 * ((p5 + p6 + p7) + 256 * ((p6 + p7) + 256 * p7))) + ((p4 + p5 + p6 + p7) + 256 * ((p5 + p6 + p7) + 256 * ((p6 + p7) + 256 * p7))) = (p0 + p1 + p2 + p3 + p4 + p5 + p6 + p7) + 256 * ((p1 + p2 + p3 + p4) + 256 * ((p2 + p3 + p4 + p5) + 256 * (p3 + p4 + p5 + p6)) + 16777216 * ((p4 + p5 + p6 + p7) + 256 * ((p5 + p6 + p7) + 256 * ((p6 + p7) + 256 * p7))) + ((p5 + p6 + p7) + 256 * ((p6 + p7) + 256 * p7))) := by omega
theorem pb8 {p0 p1 p2 p3 p4 p5 p6 p7 M : Nat} (h : p0 ≤ M ∧ p1 ≤ M ∧ p2 ≤ M ∧ p3 ≤ M ∧ p4 ≤ M ∧ p5 ≤ M ∧ p6 ≤ M ∧ p7 ≤ M) (hM : M ≤ 32) : p0 + 256 * (p1 + 256 * (p2 + 256 * (p3 + 256 * (p4 + 256 * (p5 + 256 * (p6 + 256 * p7)))))) ≤ 33 * 72340172838076673 := by
  obtain ⟨b0, b1, b2, b3, b4, b5, b6, b7⟩ := h
  omega
theorem pcT {v x3 x4 x5 x6 : Nat} (hv : v < 18446744073709551616) (h3 : x3 = pcN 8 v) (h4 : x4 = (x3 + x3 / 256) % 18446744073709551616) (h5 : x5 = (x4 + x4 / 65536) % 18446744073709551616) (h6 : x6 = (x5 + x5 / 4294967296) % 18446744073709551616) : x6 % 128 = cntf v.testBit 64 := by
  obtain ⟨p0, p1, p2, p3, p4, p5, p6, p7, e, hb, c⟩ := pcN_8 hv
  have i3 := pb8 hb (by decide)
  obtain ⟨b0, b1, b2, b3, b4, b5, b6, b7⟩ := hb
  rw [e] at h3
  rw [← h3] at i3
  rw [c]
  have d1 : x3 / 256 = p1 + 256 * (p2 + 256 * (p3 + 256 * (p4 + 256 * (p5 + 256 * (p6 + 256 * p7))))) := by rw [h3]; exact pt1 (by omega)
  have l3 : x3 / 256 ≤ x3 := Nat.div_le_self _ _
  rw [Nat.mod_eq_of_lt (Nat.lt_of_le_of_lt (Nat.add_le_add i3 (Nat.le_trans l3 i3)) (by decide))] at h4
  have i4 : x4 ≤ 33 * 72340172838076673 + 33 * 72340172838076673 := by rw [h4]; exact Nat.add_le_add i3 (Nat.le_trans l3 i3)
  rw [d1, h3, pl4] at h4
  have d2 : x4 / 65536 = (p2 + p3) + 256 * ((p3 + p4) + 256 * ((p4 + p5) + 256 * ((p5 + p6) + 256 * ((p6 + p7) + 256 * p7)))) := by rw [h4]; exact pt2 (by omega)
  have l4 : x4 / 65536 ≤ 281474976710656 := Nat.div_le_of_le_mul (Nat.le_trans i4 (by decide))
  rw [Nat.mod_eq_of_lt (Nat.lt_of_le_of_lt (Nat.add_le_add i4 l4) (by decide))] at h5
  have i5 : x5 ≤ 33 * 72340172838076673 + 33 * 72340172838076673 + 281474976710656 := by rw [h5]; exact Nat.add_le_add i4 l4
  rw [d2, h4, pl5] at h5
  have d3 : x5 / 4294967296 = (p4 + p5 + p6 + p7) + 256 * ((p5 + p6 + p7) + 256 * ((p6 + p7) + 256 * p7)) := by rw [h5]; exact pt3 (by omega)
  have l5 : x5 / 4294967296 ≤ 4294967296 := Nat.div_le_of_le_mul (Nat.le_trans i5 (by decide))
  rw [Nat.mod_eq_of_lt (Nat.lt_of_le_of_lt (Nat.add_le_add i5 l5) (by decide))] at h6
  rw [d3, h5, pl6] at h6
  rw [h6]
  exact pt4 (by omega)
def tn (x : Int64) : Nat := x.toBitVec.toNat
theorem tn_lt (x : Int64) : tn x < 18446744073709551616 := x.toBitVec.isLt
theorem tn_and (x y : Int64) : tn (x &&& y) = tn x &&& tn y := by unfold tn; rw [Int64.toBitVec_and, BitVec.toNat_and]
theorem tn_add (x y : Int64) : tn (x + y) = (tn x + tn y) % 18446744073709551616 := by unfold tn; rw [Int64.toBitVec_add, BitVec.toNat_add]
theorem tn_sub {x y : Int64} (h : tn y ≤ tn x) : tn (x - y) = tn x - tn y := by
  have h1 := tn_lt x
  unfold tn at h h1 ⊢
  rw [Int64.toBitVec_sub, BitVec.toNat_sub]
  omega
theorem tn_shr (x : Int64) (y : Int32) (k : Nat) (h : (y.toInt64.toUInt64 &&& Int64.toUInt64 63).toNat = k) (hk : k < 64) : tn ((x.toUInt64 >>> (y.toInt64.toUInt64 &&& Int64.toUInt64 63)).toInt64) = tn x / 2 ^ k := by
  unfold tn
  show (x.toUInt64 >>> (y.toInt64.toUInt64 &&& Int64.toUInt64 63)).toNat = x.toUInt64.toNat / 2 ^ k
  rw [UInt64.toNat_shiftRight, h, Nat.mod_eq_of_lt hk, Nat.shiftRight_eq_div_pow]
theorem pm_lb_tb (v : Int64) (i : Nat) : (tn v).testBit i = pm_lb v i := rfl
set_option maxHeartbeats 4000000 in
set_option maxRecDepth 100000 in
theorem c_J13_bitCount_95d88 (G : pm_G) (l : Launch) (bs : Nat) (v : Int64) (S : pm_S)  : pm_M G l bs yJ13_bitCount_95d88 cJ13_bitCount_95d88 2 (some .int) 0 0 0 [.long v] S (pm_qi (fun x S2 => x = nI (cntf (pm_lb v) 64) ∧ S2 = S)) := by
  refine pm_Mi (L := [.long v, pm_u]) (by decide +kernel) rfl (pm_en_2 rfl (pm_en_0 rfl)) ?_
  generalize hQ9 : pm_xi (fun x S2 => x = nI (cntf (pm_lb v) 64) ∧ S2 = S) = Q9
  refine pm_lload_n dJ13_bitCount_95d88_0 rfl ?_
  refine pm_lload_n dJ13_bitCount_95d88_1 rfl ?_
  refine pm_iconst (v := 1) dJ13_bitCount_95d88_2 (by decide) ?_
  refine pm_lushr dJ13_bitCount_95d88_3 ?_
  refine pm_ldc2 pm_cl_J13_314 dJ13_bitCount_95d88_4 ?_
  refine pm_land dJ13_bitCount_95d88_7 ?_
  refine pm_lsub dJ13_bitCount_95d88_8 ?_
  refine pm_lstn dJ13_bitCount_95d88_9 (i := 0) rfl (by decide) ?_
  dsimp only [List.set]
  generalize e1 : v - ((v.toUInt64 >>> ((1 : Int32).toInt64.toUInt64 &&& Int64.toUInt64 63)).toInt64 &&& 6148914691236517205) = v1
  have t1 : tn v1 = g1 (mk8 85 8) (tn v) := by
    have hs : tn ((v.toUInt64 >>> ((1 : Int32).toInt64.toUInt64 &&& Int64.toUInt64 63)).toInt64 &&& 6148914691236517205) = (tn v / 2) &&& mk8 85 8 := by rw [tn_and, tn_shr v 1 1 (by decide) (by decide)]; rfl
    rw [← e1, tn_sub (by rw [hs]; exact Nat.le_trans Nat.and_le_left (by omega)), hs]; rfl
  refine pm_lload_n dJ13_bitCount_95d88_10 rfl ?_
  refine pm_ldc2 pm_cl_J13_316 dJ13_bitCount_95d88_11 ?_
  refine pm_land dJ13_bitCount_95d88_14 ?_
  refine pm_lload_n dJ13_bitCount_95d88_15 rfl ?_
  refine pm_iconst (v := 2) dJ13_bitCount_95d88_16 (by decide) ?_
  refine pm_lushr dJ13_bitCount_95d88_17 ?_
  refine pm_ldc2 pm_cl_J13_316 dJ13_bitCount_95d88_18 ?_
  refine pm_land dJ13_bitCount_95d88_21 ?_
  refine pm_ladd dJ13_bitCount_95d88_22 ?_
  refine pm_lstn dJ13_bitCount_95d88_23 (i := 0) rfl (by decide) ?_
  dsimp only [List.set]
  generalize e2 : (v1 &&& 3689348814741910323) + ((v1.toUInt64 >>> ((2 : Int32).toInt64.toUInt64 &&& Int64.toUInt64 63)).toInt64 &&& 3689348814741910323) = v2
  have t2 : tn v2 = g2 (mk8 51 8) (tn v1) := by
    have h1 : tn v1 &&& mk8 51 8 ≤ mk8 51 8 := Nat.and_le_right
    have h2 : (tn v1 / 4) &&& mk8 51 8 ≤ mk8 51 8 := Nat.and_le_right
    rw [← e2, tn_add, tn_and, tn_and, tn_shr v1 2 2 (by decide) (by decide)]
    show (( tn v1 &&& mk8 51 8) + ((tn v1 / 4) &&& mk8 51 8)) % _ = _
    rw [Nat.mod_eq_of_lt (Nat.lt_of_le_of_lt (Nat.add_le_add h1 h2) (by decide))]; rfl
  refine pm_lload_n dJ13_bitCount_95d88_24 rfl ?_
  refine pm_lload_n dJ13_bitCount_95d88_25 rfl ?_
  refine pm_iconst (v := 4) dJ13_bitCount_95d88_26 (by decide) ?_
  refine pm_lushr dJ13_bitCount_95d88_27 ?_
  refine pm_ladd dJ13_bitCount_95d88_28 ?_
  refine pm_ldc2 pm_cl_J13_318 dJ13_bitCount_95d88_29 ?_
  refine pm_land dJ13_bitCount_95d88_32 ?_
  refine pm_lstn dJ13_bitCount_95d88_33 (i := 0) rfl (by decide) ?_
  dsimp only [List.set]
  generalize e3 : (v2 + (v2.toUInt64 >>> ((4 : Int32).toInt64.toUInt64 &&& Int64.toUInt64 63)).toInt64) &&& 1085102592571150095 = v3
  have b2 : tn v2 ≤ 2 * mk8 51 8 := by
    rw [t2]
    have h1 : tn v1 &&& mk8 51 8 ≤ mk8 51 8 := Nat.and_le_right
    have h2 : (tn v1 / 4) &&& mk8 51 8 ≤ mk8 51 8 := Nat.and_le_right
    show (tn v1 &&& mk8 51 8) + ((tn v1 / 4) &&& mk8 51 8) ≤ _
    omega
  have b2b : 2 * mk8 51 8 = 7378697629483820646 := by decide
  have t3 : tn v3 = g3 (mk8 15 8) (tn v2) := by
    rw [← e3, tn_and, tn_add, tn_shr v2 4 4 (by decide) (by decide)]
    show ((tn v2 + tn v2 / 16) % 18446744073709551616) &&& mk8 15 8 = _
    rw [Nat.mod_eq_of_lt (by omega)]; rfl
  refine pm_lload_n dJ13_bitCount_95d88_34 rfl ?_
  refine pm_lload_n dJ13_bitCount_95d88_35 rfl ?_
  refine pm_bipush (v := 8) dJ13_bitCount_95d88_36 (by decide) ?_
  refine pm_lushr dJ13_bitCount_95d88_38 ?_
  refine pm_ladd dJ13_bitCount_95d88_39 ?_
  refine pm_lstn dJ13_bitCount_95d88_40 (i := 0) rfl (by decide) ?_
  dsimp only [List.set]
  generalize e4 : v3 + (v3.toUInt64 >>> ((8 : Int32).toInt64.toUInt64 &&& Int64.toUInt64 63)).toInt64 = v4
  have t4 : tn v4 = (tn v3 + tn v3 / 256) % 18446744073709551616 := by rw [← e4, tn_add, tn_shr v3 8 8 (by decide) (by decide)]
  refine pm_lload_n dJ13_bitCount_95d88_41 rfl ?_
  refine pm_lload_n dJ13_bitCount_95d88_42 rfl ?_
  refine pm_bipush (v := 16) dJ13_bitCount_95d88_43 (by decide) ?_
  refine pm_lushr dJ13_bitCount_95d88_45 ?_
  refine pm_ladd dJ13_bitCount_95d88_46 ?_
  refine pm_lstn dJ13_bitCount_95d88_47 (i := 0) rfl (by decide) ?_
  dsimp only [List.set]
  generalize e5 : v4 + (v4.toUInt64 >>> ((16 : Int32).toInt64.toUInt64 &&& Int64.toUInt64 63)).toInt64 = v5
  have t5 : tn v5 = (tn v4 + tn v4 / 65536) % 18446744073709551616 := by rw [← e5, tn_add, tn_shr v4 16 16 (by decide) (by decide)]
  refine pm_lload_n dJ13_bitCount_95d88_48 rfl ?_
  refine pm_lload_n dJ13_bitCount_95d88_49 rfl ?_
  refine pm_bipush (v := 32) dJ13_bitCount_95d88_50 (by decide) ?_
  refine pm_lushr dJ13_bitCount_95d88_52 ?_
  refine pm_ladd dJ13_bitCount_95d88_53 ?_
  refine pm_lstn dJ13_bitCount_95d88_54 (i := 0) rfl (by decide) ?_
  dsimp only [List.set]
  generalize e6 : v5 + (v5.toUInt64 >>> ((32 : Int32).toInt64.toUInt64 &&& Int64.toUInt64 63)).toInt64 = v6
  have t6 : tn v6 = (tn v5 + tn v5 / 4294967296) % 18446744073709551616 := by rw [← e6, tn_add, tn_shr v5 32 32 (by decide) (by decide)]
  have tt := pcT (tn_lt v) (by rw [t3, t2, t1]; rfl) t4 t5 t6
  refine pm_lload_n dJ13_bitCount_95d88_55 rfl ?_
  refine pm_l2i dJ13_bitCount_95d88_56 ?_
  refine pm_bipush (v := 127) dJ13_bitCount_95d88_57 (by decide) ?_
  refine pm_iand dJ13_bitCount_95d88_59 ?_
  subst hQ9
  refine pm_iret dJ13_bitCount_95d88_60 ?_
  refine ⟨?_, rfl⟩
  have e : v6.toInt32 &&& 127 = nI (tn v6 % 128) := by
    rw [pk_and v6.toInt32 (m := 127) 7 (by decide)]
    show nI (v6.toInt32.toBitVec.toNat % 128) = nI (tn v6 % 128)
    have : v6.toInt32.toBitVec.toNat = tn v6 % 4294967296 := by unfold tn; rw [Int64.toBitVec_toInt32, BitVec.signExtend_eq_setWidth_of_le _ (by decide), BitVec.toNat_setWidth]
    rw [this]
    congr 1
    omega
  rw [e, tt]; rfl

/-- how many links -/
def zLks (Z : az) (p : Nat) : Nat := cntf (az_f Z p) (az_a Z 0)
theorem zLks_of {Z : az} {s p : Nat} {v : Int64} (hI : zI s Z) (h : ∀ i, i < 64 → pm_lb v i = (decide (0 < i) && az_f Z p (i - 1))) : cntf (pm_lb v) 64 = zLks Z p := by
  have hn := hI.1
  rw [cntf_cg 64 h, show (64 : Nat) = 1 + (az_a Z 0 + (63 - az_a Z 0)) from by omega, cntf_add, cntf_add]
  have e0 : cntf (fun i => decide (0 < i) && az_f Z p (i - 1)) 1 = 0 := cntf_0 1 (fun i hi => by rw [decide_eq_false (by omega)]; rfl)
  have e1 : cntf (fun i => (fun i => decide (0 < i) && az_f Z p (i - 1)) (1 + i)) (az_a Z 0) = zLks Z p := cntf_cg _ (fun i hi => by
    show (decide (0 < 1 + i) && az_f Z p (1 + i - 1)) = _
    rw [decide_eq_true (by omega), Bool.true_and, show 1 + i - 1 = i from by omega])
  have e2 : cntf (fun i => (fun i => (fun i => decide (0 < i) && az_f Z p (i - 1)) (1 + i)) (az_a Z 0 + i)) (63 - az_a Z 0) = 0 := cntf_0 _ (fun i hi => by
    show (decide (0 < 1 + (az_a Z 0 + i)) && az_f Z p (1 + (az_a Z 0 + i) - 1)) = false
    have : az_f Z p (1 + (az_a Z 0 + i) - 1) = false := by
      cases q : az_f Z p (1 + (az_a Z 0 + i) - 1)
      · rfl
      · have := (hI.2.2.2.2.2.2.1 _ _ q).2.1; omega
    rw [this, Bool.and_false])
  rw [e0, e1, e2]
  omega
def zFact (Z : az) (p : Nat) : Nat → Int32
  | 0 => nI (az_b Z 1 p) | 1 => nI (az_b Z 2 p) | 2 => nI (az_b Z 0 p) | 3 => zNm (az_e Z 0 p) | 4 => nI (az_b Z 11 p) | 5 => nI (az_b Z 9 p) | 6 => nI (az_b Z 10 p) | 7 => nI (zLks Z p) | 8 => nI (az_b Z 7 p) | 9 => nI (az_b Z 8 p) | _ => nI (az_b Z 6 p)
set_option maxHeartbeats 4000000 in
set_option maxRecDepth 100000 in
theorem c_X1_fact (G : pm_G) (l : Launch) (bs : Nat) (Z : az) (Y : pm_Y) (E : pm_S) (s : Nat) (p j : Nat) (S : pm_S) (hx : pm_CX Z S Y E) (hI : zI s Z) (hp : p < az_a Z 0) (hj : j < 11) : pm_M G l bs yX1_fact cX1_fact 2 (some .int) 1 0 0 [.ref (Y.1 (pq p 0)), .int (nI j)] S (pm_qi (fun x S2 => x = zFact Z p j ∧ S2 = S)) := by
  have hn := hI.1
  have hsm := hI.sm
  obtain ⟨h, hmk⟩ := id hx
  have hA := h.2.2.2.2.2.1
  obtain ⟨⟨hk0, hr0, hr1, hr2, hr3, hr4, hr5, hr6, hr7⟩, ⟨hk1, hl1⟩, ⟨hk2, hl2⟩, ⟨hk3, hl3⟩, ⟨hk4, hl4⟩, hWt, hSh, hLt, hCs⟩ := id h.2.2.1
  obtain ⟨kW, rW1, rW2, rW3, kW1, nW1, kW2, nW2, kW3, nW3, -⟩ := id hWt
  have hB := h.2.2.2.2.1 p hp
  obtain ⟨⟨pk0, pr1, pr2, pr4, pr6, ppid⟩, ⟨pk1, pn1, pz1⟩, hmb, hts⟩ := id (h.2.2.2.1 p hp)
  refine pm_Mi (L := [.ref (Y.1 (pq p 0)), .int (nI j)]) (by decide +kernel) rfl (pm_en_1 rfl (pm_en_1 rfl (pm_en_0 rfl))) ?_
  generalize hQ9 : pm_xi (fun x S2 => x = zFact Z p j ∧ S2 = S) = Q9
  refine pm_iload_n dX1_fact_0 rfl ?_
  match j, hj with
  | 0, _ =>
    refine pm_tableIn (tgt := 56) dX1_fact_1 (by decide) (by decide) rfl (by decide) ?_
    refine pm_aload_n dX1_fact_56 rfl ?_
    refine pm_g_Proc_state (by (try simp only [pm_k_si, pm_k_sj, pm_k_sp, pm_k_sx, pm_k_sz, pm_k_sr, pm_k_sy]); assumption) pm_f_X1_36 dX1_fact_57 ?_
    subst hQ9
    refine pm_iret dX1_fact_60 ?_
    exact ⟨hB 56 0 1 rfl, rfl⟩
  | 1, _ =>
    refine pm_tableIn (tgt := 61) dX1_fact_1 (by decide) (by decide) rfl (by decide) ?_
    refine pm_aload_n dX1_fact_61 rfl ?_
    refine pm_g_Proc_at (by (try simp only [pm_k_si, pm_k_sj, pm_k_sp, pm_k_sx, pm_k_sz, pm_k_sr, pm_k_sy]); assumption) pm_f_X1_40 dX1_fact_62 ?_
    subst hQ9
    refine pm_iret dX1_fact_65 ?_
    exact ⟨hB 57 0 2 rfl, rfl⟩
  | 2, _ =>
    refine pm_tableIn (tgt := 66) dX1_fact_1 (by decide) (by decide) rfl (by decide) ?_
    refine pm_aload_n dX1_fact_66 rfl ?_
    refine pm_g_Proc_priority (by (try simp only [pm_k_si, pm_k_sj, pm_k_sp, pm_k_sx, pm_k_sz, pm_k_sr, pm_k_sy]); assumption) pm_f_X1_74 dX1_fact_67 ?_
    subst hQ9
    refine pm_iret dX1_fact_70 ?_
    exact ⟨hB 51 0 0 rfl, rfl⟩
  | 3, _ =>
    refine pm_tableIn (tgt := 71) dX1_fact_1 (by decide) (by decide) rfl (by decide) ?_
    refine pm_aload_n dX1_fact_71 rfl ?_
    refine pm_g_Proc_name (by (try simp only [pm_k_si, pm_k_sj, pm_k_sp, pm_k_sx, pm_k_sz, pm_k_sr, pm_k_sy]); assumption) pm_f_X1_58 dX1_fact_72 ?_
    subst hQ9
    refine pm_iret dX1_fact_75 ?_
    exact ⟨h.2.2.2.2.2.2.1.1 p hp, rfl⟩
  | 4, _ =>
    refine pm_tableIn (tgt := 76) dX1_fact_1 (by decide) (by decide) rfl (by decide) ?_
    refine pm_aload_n dX1_fact_76 rfl ?_
    refine pm_g_Proc_traps (by (try simp only [pm_k_si, pm_k_sj, pm_k_sp, pm_k_sx, pm_k_sz, pm_k_sr, pm_k_sy]); assumption) pm_f_X1_61 dX1_fact_77 ?_
    rw [hB 63 0 11 rfl]
    refine pm_if_eq (tgt := 87) dX1_fact_80 (by decide) (fun h80 => ?_) (fun h80 => ?_)
    · skip
      have h9 : az_b Z 11 p = 0 := (pm_e0 (hsm p hp 11 (by decide))).mp h80
      refine pm_iconst (v := 0) dX1_fact_87 (by decide) ?_
      subst hQ9
      refine pm_iret dX1_fact_88 ?_
      exact ⟨by show _ = nI (az_b Z 11 p); rw [h9]; rfl, rfl⟩
    · skip
      have h7 : ¬ az_b Z 11 p = 0 := fun z => h80 ((pm_e0 (hsm p hp 11 (by decide))).mpr z)
      have h6 : az_b Z 11 p ≤ 1 := hI.b hp 11
      have h9 : az_b Z 11 p = 1 := by omega
      refine pm_iconst (v := 1) dX1_fact_83 (by decide) ?_
      refine pm_goto (tgt := 88) dX1_fact_84 (by decide) ?_
      subst hQ9
      refine pm_iret dX1_fact_88 ?_
      exact ⟨by show _ = nI (az_b Z 11 p); rw [h9]; rfl, rfl⟩
  | 5, _ =>
    refine pm_tableIn (tgt := 89) dX1_fact_1 (by decide) (by decide) rfl (by decide) ?_
    refine pm_aload_n dX1_fact_89 rfl ?_
    refine pm_g_Proc_box (by (try simp only [pm_k_si, pm_k_sj, pm_k_sp, pm_k_sx, pm_k_sz, pm_k_sr, pm_k_sy]); assumption) pm_f_X1_25 (by (try simp only [pm_p_si, pm_p_sj, pm_p_sx, pm_p_sz, pm_p_sr, pm_p_sy]); assumption) dX1_fact_90 ?_
    refine pm_g_Mailbox_count hmb.1 pm_f_X1_85 dX1_fact_93 ?_
    subst hQ9
    refine pm_iret dX1_fact_96 ?_
    exact ⟨hB 1 4 9 rfl, rfl⟩
  | 6, _ =>
    refine pm_tableIn (tgt := 97) dX1_fact_1 (by decide) (by decide) rfl (by decide) ?_
    refine pm_aload_n dX1_fact_97 rfl ?_
    refine pm_g_Proc_box (by (try simp only [pm_k_si, pm_k_sj, pm_k_sp, pm_k_sx, pm_k_sz, pm_k_sr, pm_k_sy]); assumption) pm_f_X1_25 (by (try simp only [pm_p_si, pm_p_sj, pm_p_sx, pm_p_sz, pm_p_sr, pm_p_sy]); assumption) dX1_fact_98 ?_
    refine pm_g_Mailbox_pointer hmb.1 pm_f_X1_88 dX1_fact_101 ?_
    subst hQ9
    refine pm_iret dX1_fact_104 ?_
    exact ⟨hB 2 4 10 rfl, rfl⟩
  | 7, _ =>
    refine pm_tableIn (tgt := 105) dX1_fact_1 (by decide) (by decide) rfl (by decide) ?_
    refine pm_aload_n dX1_fact_105 rfl ?_
    refine pm_g_Proc_links (by (try simp only [pm_k_si, pm_k_sj, pm_k_sp, pm_k_sx, pm_k_sz, pm_k_sr, pm_k_sy]); assumption) pm_f_X1_65 dX1_fact_106 ?_
    refine pm_ssi (c_J13_bitCount_95d88 G l bs _ _) pm_y_J13_bitCount_95d88 pm_s_J13_bitCount_95d88 pm_m_X1_91 dX1_fact_109 rfl rfl (by decide) (Nat.le_of_ble_eq_true rfl) (fun x109 S109 h109 => ?_)
    obtain ⟨rfl, rfl⟩ := h109
    subst hQ9
    refine pm_iret dX1_fact_112 ?_
    exact ⟨by rw [zLks_of hI (h.2.2.2.2.2.2.2.1 p hp).2]; rfl, rfl⟩
  | 8, _ =>
    refine pm_tableIn (tgt := 113) dX1_fact_1 (by decide) (by decide) rfl (by decide) ?_
    refine pm_aload_n dX1_fact_113 rfl ?_
    refine pm_g_Proc_trail (by (try simp only [pm_k_si, pm_k_sj, pm_k_sp, pm_k_sx, pm_k_sz, pm_k_sr, pm_k_sy]); assumption) pm_f_X1_32 (by (try simp only [pm_p_si, pm_p_sj, pm_p_sx, pm_p_sz, pm_p_sr, pm_p_sy]); assumption) dX1_fact_114 ?_
    refine pm_g_Trail_backCount hts.1 pm_f_X1_97 dX1_fact_117 ?_
    subst hQ9
    refine pm_iret dX1_fact_120 ?_
    exact ⟨hB 203 6 7 rfl, rfl⟩
  | 9, _ =>
    refine pm_tableIn (tgt := 121) dX1_fact_1 (by decide) (by decide) rfl (by decide) ?_
    refine pm_aload_n dX1_fact_121 rfl ?_
    refine pm_g_Proc_trail (by (try simp only [pm_k_si, pm_k_sj, pm_k_sp, pm_k_sx, pm_k_sz, pm_k_sr, pm_k_sy]); assumption) pm_f_X1_32 (by (try simp only [pm_p_si, pm_p_sj, pm_p_sx, pm_p_sz, pm_p_sr, pm_p_sy]); assumption) dX1_fact_122 ?_
    refine pm_g_Trail_catchCount hts.1 pm_f_X1_100 dX1_fact_125 ?_
    subst hQ9
    refine pm_iret dX1_fact_128 ?_
    exact ⟨hB 204 6 8 rfl, rfl⟩
  | 10, _ =>
    refine pm_tableOut (tgt := 129) dX1_fact_1 (by decide) (by decide) ?_
    refine pm_aload_n dX1_fact_129 rfl ?_
    refine pm_g_Proc_wordsDone (by (try simp only [pm_k_si, pm_k_sj, pm_k_sp, pm_k_sx, pm_k_sz, pm_k_sr, pm_k_sy]); assumption) pm_f_X1_68 dX1_fact_130 ?_
    subst hQ9
    refine pm_iret dX1_fact_133 ?_
    exact ⟨hB 65 0 6 rfl, rfl⟩
  | _ + 11, hj => exact absurd hj (by omega)

set_option maxHeartbeats 4000000 in
set_option maxRecDepth 100000 in
theorem c_X6_process (G : pm_G) (l : Launch) (bs : Nat) (Z : az) (Y : pm_Y) (E : pm_S) (s : Nat) (q j : Nat) (S : pm_S) (hx : pm_CX Z S Y E) (hI : zI s Z) (hq : q < az_a Z 0) (hj : j < 11) : pm_M G l bs yX6_process cX6_process 4 (some .int) 2 0 0 [.ref (Y.1 0), .int (nI (q + 1)), .int (nI j)] S (pm_qi (fun x S2 => x = zFact Z q j ∧ S2 = S)) := by
  have hn := hI.1
  have hsm := hI.sm
  obtain ⟨h, hmk⟩ := id hx
  have hA := h.2.2.2.2.2.1
  obtain ⟨⟨hk0, hr0, hr1, hr2, hr3, hr4, hr5, hr6, hr7⟩, ⟨hk1, hl1⟩, ⟨hk2, hl2⟩, ⟨hk3, hl3⟩, ⟨hk4, hl4⟩, hWt, hSh, hLt, hCs⟩ := id h.2.2.1
  obtain ⟨kW, rW1, rW2, rW3, kW1, nW1, kW2, nW2, kW3, nW3, -⟩ := id hWt
  have hBq := h.2.2.2.2.1 q hq
  obtain ⟨⟨pk0q, pr1q, pr2q, pr4q, pr6q, ppidq⟩, ⟨pk1q, pn1q, pz1q⟩, hmbq, htsq⟩ := id (h.2.2.2.1 q hq)
  refine pm_Mi (L := [.ref (Y.1 0), .int (nI (q + 1)), .int (nI j), pm_u]) (by decide +kernel) rfl (pm_en_1 rfl (pm_en_1 rfl (pm_en_1 rfl (pm_en_0 rfl)))) ?_
  generalize hQ9 : pm_xi (fun x S2 => x = zFact Z q j ∧ S2 = S) = Q9
  refine pm_aload_n dX6_process_0 rfl ?_
  refine pm_iload_n dX6_process_1 rfl ?_
  refine pm_vr (c_X6_find G l bs Z Y E (nI (q + 1)) _ h hn) pm_y_X6_find pm_v_X6_find pm_m_X6_91 (c := 6) (r := (RX6, TX6, 16)) rfl rfl (by (try simp only [pm_k_si, pm_k_sj, pm_k_sp, pm_k_sx, pm_k_sz, pm_k_sr, pm_k_sy]); assumption) dX6_process_2 rfl rfl (by decide) (Nat.le_of_ble_eq_true rfl) (fun x2 S2 h2 => ?_)
  obtain ⟨e2, rfl⟩ := h2
  rw [nI_toInt (by omega), if_pos (by omega), show (((q + 1 : Nat) : Int).toNat - 1) = q from by omega] at e2
  subst e2
  show pm_W _ _ _ _ _ _ _ _ _ _ _ _ _ [.ref (Y.1 (pq q 0))] _
  refine pm_astn dX6_process_5 (i := 3) rfl (by decide) ?_
  dsimp only [List.set]
  refine pm_aload_n dX6_process_6 rfl ?_
  refine pm_ifnull_r dX6_process_7 ?_
  refine pm_iload_n dX6_process_10 rfl ?_
  refine pm_bipush (v := 11) dX6_process_11 (by decide) ?_
  refine pm_ssi (c_X6_isBelow G l bs (nI j) 11 _) pm_y_X6_isBelow pm_s_X6_isBelow pm_m_X6_74 dX6_process_13 rfl rfl (by decide) (Nat.le_of_ble_eq_true rfl) (fun x13 S13 h13 => ?_)
  obtain ⟨e13, rfl⟩ := h13
  rw [if_pos ⟨nI_pos' (by omega), (pm_lt16 (n := j) (m := 11) (by omega) (by omega)).mpr (by omega)⟩] at e13
  subst e13
  refine pm_if_ne (tgt := 27) dX6_process_16 (by decide) (fun h16 => ?_) (fun h16 => ?_)
  · skip
    skip
    refine pm_aload_n dX6_process_27 rfl ?_
    refine pm_iload_n dX6_process_28 rfl ?_
    refine pm_vi (c_X1_fact G l bs Z Y E s q j _ hx hI hq hj) pm_y_X1_fact pm_v_X1_fact pm_m_X6_134 (c := 1) (r := (RX1, TX1, 16)) rfl rfl pk0q dX6_process_29 rfl rfl (by decide) (Nat.le_of_ble_eq_true rfl) (fun x29 S29 h29 => ?_)
    obtain ⟨rfl, rfl⟩ := h29
    subst hQ9
    refine pm_iret dX6_process_32 ?_
    exact ⟨rfl, rfl⟩
  · exact absurd h16 (by decide)

