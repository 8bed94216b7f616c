/-! the reference: whose turn it is, runs, passing time -/
theorem zN_none {Z : az} {g : Bool} {m k : Nat} (h : az_b Z 1 k = 0) : zNext Z g (m + 1) k none = zNext Z g m (k + 1) (some k) := by rw [zNext_s, if_pos h]
theorem zN_t {Z : az} {g : Bool} {m k q : Nat} (h : az_b Z 1 k = 0) (h2 : zFirstOf Z g k q = true) : zNext Z g (m + 1) k (some q) = zNext Z g m (k + 1) (some k) := by rw [zNext_s, if_pos h]; dsimp only; rw [if_pos h2]
theorem zN_f {Z : az} {g : Bool} {m k q : Nat} (h : az_b Z 1 k = 0) (h2 : ¬ zFirstOf Z g k q = true) : zNext Z g (m + 1) k (some q) = zNext Z g m (k + 1) (some q) := by rw [zNext_s, if_pos h]; dsimp only; rw [if_neg h2]
theorem zN_o {Z : az} {g : Bool} {m k : Nat} {r : Option Nat} (h : ¬ az_b Z 1 k = 0) : zNext Z g (m + 1) k r = zNext Z g m (k + 1) r := by rw [zNext_s, if_neg h]
theorem zF_e {Z : az} {g : Bool} {p q : Nat} (h : az_b Z 0 p = az_b Z 0 q) : zFirstOf Z g p q = decide (az_b Z 5 p < az_b Z 5 q) := by unfold zFirstOf; rw [if_pos h]
theorem zF_t {Z : az} {p q : Nat} (h : ¬ az_b Z 0 p = az_b Z 0 q) : zFirstOf Z true p q = decide (az_b Z 0 q < az_b Z 0 p) := by unfold zFirstOf; rw [if_neg h]; rfl
theorem zF_f {Z : az} {p q : Nat} (h : ¬ az_b Z 0 p = az_b Z 0 q) : zFirstOf Z false p q = decide (az_b Z 0 p < az_b Z 0 q) := by unfold zFirstOf; rw [if_neg h]; rfl
theorem mx_id {M : pm_N} {s k : Nat} {v : Int32} (h : M.1 s k = v) : mx M s k v = M := by
  refine Prod.ext (funext fun a => funext fun c => ?_) rfl
  show (if a = s ∧ c = k then v else M.1 a c) = M.1 a c
  by_cases e : a = s ∧ c = k
  · rw [if_pos e, e.1, e.2, h]
  · rw [if_neg e]
set_option maxHeartbeats 4000000 in
set_option maxRecDepth 100000 in
theorem c_X7_nextReady (G : pm_G) (l : Launch) (bs : Nat) (A : Nat → Nat) (E : pm_S) (M : pm_N) (b : Nat) (Z : az) (s : Nat) (g : Bool) (x : Int32) (S : pm_S) (hm : pm_MX M S A E) (hr : mR b Z M) (hI : zI s Z) (hx : x = if g = true then 1 else 0) : pm_M G l bs yX7_nextReady cX7_nextReady 5 (some .int) 0 0 0 [.ref (A 50), .int x] S (pm_qi (fun y S2 => y = zNm (zNext Z g (az_a Z 0) 0 none) ∧ S2 = S)) := by
  have hn := hI.1
  have hsm := hI.sm
  refine pm_Mi (L := [.ref (A 50), .int x, pm_u, pm_u, pm_u]) (by decide +kernel) rfl (pm_en_1 rfl (pm_en_1 rfl (pm_en_0 rfl))) ?_
  generalize hQ9 : pm_xi (fun y S2 => y = zNm (zNext Z g (az_a Z 0) 0 none) ∧ S2 = S) = Q9
  have loop : ∀ (m k : Nat) (r : Option Nat) (v4 : Value), k + m = az_a Z 0 → (∀ c, r = some c → c < az_a Z 0) → zNext Z g m k r = zNext Z g (az_a Z 0) 0 none → pm_W G l bs yX7_nextReady.cls cX7_nextReady 5 false 0 0 0 Q9 4 [.ref (A 50), .int x, .int (zNm r), .int (nI k), v4] [] S := by
    intro m
    induction m using Nat.strongRecOn with
    | ind m ih =>
    intro k r v4 hkm hrr hR
    refine pm_iload_n dX7_nextReady_4 rfl ?_
    refine pm_aload_n dX7_nextReady_5 rfl ?_
    refine pm_g_Model_count hm.1 pm_f_X7_121 dX7_nextReady_6 ?_
    rw [hm.f (g := 375) (f := 25) rfl]
    rw [hr.A (i := 0) rfl]
    refine pm_icmp_ge (tgt := 152) dX7_nextReady_9 (by decide) (fun h9 => ?_) (fun h9 => ?_)
    · skip
      have h8 : ¬ k < az_a Z 0 := by have := (pm_nle (a := az_a Z 0) (b := k) (by omega) (by omega)).mp h9; omega
      obtain rfl : m = 0 := by omega
      refine pm_iload_n dX7_nextReady_152 rfl ?_
      subst hQ9
      refine pm_iret dX7_nextReady_153 ?_
      exact ⟨by rw [← hR]; rfl, rfl⟩
    · skip
      have h8 : k < az_a Z 0 := by rcases Nat.lt_or_ge (k) (az_a Z 0) with y | y; exact y; exact absurd ((pm_nle (a := az_a Z 0) (b := k) (by omega) (by omega)).mpr y) h9
      obtain ⟨m, rfl⟩ : ∃ m2, m = m2 + 1 := ⟨m - 1, by omega⟩
      have bk0 := hsm k h8 0 (by decide)
      have bk5 : az_b Z 5 k ≤ 1073741824 := hI.b h8 5
      refine pm_aload_n dX7_nextReady_12 rfl ?_
      refine pm_g_Model_state hm.1 pm_f_X7_29 (hm.2.1 6 (by decide)).1 dX7_nextReady_13 ?_
      refine pm_iload_n dX7_nextReady_16 rfl ?_
      refine mm_iaload (n := _) hm (by decide) rfl (by show _ < 60; omega) dX7_nextReady_17 ?_
      rw [hr.B (i := 1) h8 rfl]
      refine pm_if_eq (tgt := 24) dX7_nextReady_18 (by decide) (fun h18 => ?_) (fun h18 => ?_)
      · skip
        have g1 : az_b Z 1 k = 0 := (pm_e0 (hsm k h8 1 (by decide))).mp h18
        refine pm_iload_n dX7_nextReady_24 rfl ?_
        refine pm_iconst (v := (-1)) dX7_nextReady_25 (by decide) ?_
        refine pm_icmp_ne (tgt := 33) dX7_nextReady_26 (by decide) (fun h26 => ?_) (fun h26 => ?_)
        · skip
          obtain ⟨q, rfl⟩ : ∃ q, r = some q := Option.ne_none_iff_exists'.mp (fun y => h26 (by rw [y]; rfl))
          rw [show zNm (some q) = nI q from rfl]
          have hq := hrr q rfl
          have bq0 := hsm q hq 0 (by decide)
          have bq5 : az_b Z 5 q ≤ 1073741824 := hI.b hq 5
          refine pm_iconst (v := 0) dX7_nextReady_33 (by decide) ?_
          refine pm_istore dX7_nextReady_34 (by decide) ?_
          dsimp only [List.set]
          refine pm_iload dX7_nextReady_36 rfl ?_
          refine pm_if_ne (tgt := 108) dX7_nextReady_38 (by decide) (fun h38 => ?_) (fun h38 => ?_)
          case refine_1 => first | exact absurd h38 (by decide) | exact absurd (by decide) h38
          refine pm_aload_n dX7_nextReady_41 rfl ?_
          refine pm_g_Model_priority hm.1 pm_f_X7_35 (hm.2.1 8 (by decide)).1 dX7_nextReady_42 ?_
          refine pm_iload_n dX7_nextReady_45 rfl ?_
          refine mm_iaload (n := _) hm (by decide) rfl (by show _ < 60; omega) dX7_nextReady_46 ?_
          refine pm_aload_n dX7_nextReady_47 rfl ?_
          refine pm_g_Model_priority hm.1 pm_f_X7_35 (hm.2.1 8 (by decide)).1 dX7_nextReady_48 ?_
          refine pm_iload_n dX7_nextReady_51 rfl ?_
          refine mm_iaload (n := _) hm (by decide) rfl (by show _ < 60; omega) dX7_nextReady_52 ?_
          rw [hr.B (i := 0) h8 rfl, hr.B (i := 0) hq rfl]
          refine pm_icmp_eq (tgt := 108) dX7_nextReady_53 (by decide) (fun h53 => ?_) (fun h53 => ?_)
          · skip
            have g2 : az_b Z 0 k = az_b Z 0 q := (nI_eq bk0 bq0).mp h53
            refine pm_iload dX7_nextReady_108 rfl ?_
            refine pm_if_ne (tgt := 135) dX7_nextReady_110 (by decide) (fun h110 => ?_) (fun h110 => ?_)
            case refine_1 => first | exact absurd h110 (by decide) | exact absurd (by decide) h110
            refine pm_aload_n dX7_nextReady_113 rfl ?_
            refine pm_g_Model_since hm.1 pm_f_X7_81 (hm.2.1 23 (by decide)).1 dX7_nextReady_114 ?_
            refine pm_iload_n dX7_nextReady_117 rfl ?_
            refine mm_iaload (n := _) hm (by decide) rfl (by show _ < 60; omega) dX7_nextReady_118 ?_
            refine pm_aload_n dX7_nextReady_119 rfl ?_
            refine pm_g_Model_since hm.1 pm_f_X7_81 (hm.2.1 23 (by decide)).1 dX7_nextReady_120 ?_
            refine pm_iload_n dX7_nextReady_123 rfl ?_
            refine mm_iaload (n := _) hm (by decide) rfl (by show _ < 60; omega) dX7_nextReady_124 ?_
            rw [hr.2.2.1 k h8, hr.2.2.1 q hq]
            refine pm_icmp_ge (tgt := 132) dX7_nextReady_125 (by decide) (fun h125 => ?_) (fun h125 => ?_)
            · skip
              have g5 : ¬ az_b Z 5 k + 1 < az_b Z 5 q + 1 := by have := (pm_nle (a := az_b Z 5 q + 1) (b := az_b Z 5 k + 1) (by omega) (by omega)).mp h125; omega
              rw [zN_f g1 (by rw [zF_e g2, decide_eq_true_eq]; omega)] at hR
              have hrr2 := hrr
              refine pm_iconst (v := 0) dX7_nextReady_132 (by decide) ?_
              refine pm_istore dX7_nextReady_133 (by decide) ?_
              dsimp only [List.set]
              refine pm_iload dX7_nextReady_135 rfl ?_
              refine pm_if_eq (tgt := 144) dX7_nextReady_137 (by decide) (fun h137 => ?_) (fun h137 => ?_)
              case refine_2 => first | exact absurd (by decide) h137 | exact absurd h137 (by decide)
              refine pm_iload_n dX7_nextReady_144 rfl ?_
              refine pm_istn dX7_nextReady_145 (i := 2) rfl (by decide) ?_
              dsimp only [List.set]
              refine pm_iinc dX7_nextReady_146 rfl rfl (by decide) ?_
              dsimp only [List.set]
              refine pm_goto (tgt := 4) dX7_nextReady_149 (by decide) ?_
              rw [show nI k + Int32.ofInt 1 = nI (k + 1) from nI_1 _]
              first
              | exact ih m (by omega) (k + 1) (some k) _ (by omega) hrr2 hR
              | exact ih m (by omega) (k + 1) _ _ (by omega) hrr2 hR
            · skip
              have g5 : az_b Z 5 k + 1 < az_b Z 5 q + 1 := by rcases Nat.lt_or_ge (az_b Z 5 k + 1) (az_b Z 5 q + 1) with y | y; exact y; exact absurd ((pm_nle (a := az_b Z 5 q + 1) (b := az_b Z 5 k + 1) (by omega) (by omega)).mpr y) h125
              rw [zN_t g1 (by rw [zF_e g2, decide_eq_true_eq]; omega)] at hR
              have hrr2 : ∀ c, some k = some c → c < az_a Z 0 := fun c e => by rw [← Option.some.inj e]; exact h8
              refine pm_iconst (v := 1) dX7_nextReady_128 (by decide) ?_
              refine pm_goto (tgt := 133) dX7_nextReady_129 (by decide) ?_
              refine pm_istore dX7_nextReady_133 (by decide) ?_
              dsimp only [List.set]
              refine pm_iload dX7_nextReady_135 rfl ?_
              refine pm_if_eq (tgt := 144) dX7_nextReady_137 (by decide) (fun h137 => ?_) (fun h137 => ?_)
              case refine_1 => first | exact absurd h137 (by decide) | exact absurd (by decide) h137
              refine pm_iload_n dX7_nextReady_140 rfl ?_
              refine pm_goto (tgt := 145) dX7_nextReady_141 (by decide) ?_
              refine pm_istn dX7_nextReady_145 (i := 2) rfl (by decide) ?_
              dsimp only [List.set]
              refine pm_iinc dX7_nextReady_146 rfl rfl (by decide) ?_
              dsimp only [List.set]
              refine pm_goto (tgt := 4) dX7_nextReady_149 (by decide) ?_
              rw [show nI k + Int32.ofInt 1 = nI (k + 1) from nI_1 _]
              first
              | exact ih m (by omega) (k + 1) (some k) _ (by omega) hrr2 hR
              | exact ih m (by omega) (k + 1) _ _ (by omega) hrr2 hR
          · skip
            have g2 : ¬ az_b Z 0 k = az_b Z 0 q := fun z => h53 (by rw [z])
            refine pm_iload_n dX7_nextReady_56 rfl ?_
            refine pm_if_eq (tgt := 83) dX7_nextReady_57 (by decide) (fun h57 => ?_) (fun h57 => ?_)
            · skip
              obtain rfl : g = false := by cases g; rfl; exact absurd (hx.symm.trans h57) (by decide)
              refine pm_aload_n dX7_nextReady_83 rfl ?_
              refine pm_g_Model_priority hm.1 pm_f_X7_35 (hm.2.1 8 (by decide)).1 dX7_nextReady_84 ?_
              refine pm_iload_n dX7_nextReady_87 rfl ?_
              refine mm_iaload (n := _) hm (by decide) rfl (by show _ < 60; omega) dX7_nextReady_88 ?_
              refine pm_aload_n dX7_nextReady_89 rfl ?_
              refine pm_g_Model_priority hm.1 pm_f_X7_35 (hm.2.1 8 (by decide)).1 dX7_nextReady_90 ?_
              refine pm_iload_n dX7_nextReady_93 rfl ?_
              refine mm_iaload (n := _) hm (by decide) rfl (by show _ < 60; omega) dX7_nextReady_94 ?_
              rw [hr.B (i := 0) h8 rfl, hr.B (i := 0) hq rfl]
              refine pm_icmp_ge (tgt := 102) dX7_nextReady_95 (by decide) (fun h95 => ?_) (fun h95 => ?_)
              · skip
                have g0 : ¬ az_b Z 0 k < az_b Z 0 q := by have := (pm_nle (a := az_b Z 0 q) (b := az_b Z 0 k) (by omega) (by omega)).mp h95; omega
                rw [zN_f g1 (by rw [zF_f g2, decide_eq_true_eq]; omega)] at hR
                have hrr2 := hrr
                refine pm_iconst (v := 0) dX7_nextReady_102 (by decide) ?_
                refine pm_istore dX7_nextReady_103 (by decide) ?_
                dsimp only [List.set]
                refine pm_goto (tgt := 135) dX7_nextReady_105 (by decide) ?_
                refine pm_iload dX7_nextReady_135 rfl ?_
                refine pm_if_eq (tgt := 144) dX7_nextReady_137 (by decide) (fun h137 => ?_) (fun h137 => ?_)
                case refine_2 => first | exact absurd (by decide) h137 | exact absurd h137 (by decide)
                refine pm_iload_n dX7_nextReady_144 rfl ?_
                refine pm_istn dX7_nextReady_145 (i := 2) rfl (by decide) ?_
                dsimp only [List.set]
                refine pm_iinc dX7_nextReady_146 rfl rfl (by decide) ?_
                dsimp only [List.set]
                refine pm_goto (tgt := 4) dX7_nextReady_149 (by decide) ?_
                rw [show nI k + Int32.ofInt 1 = nI (k + 1) from nI_1 _]
                first
                | exact ih m (by omega) (k + 1) (some k) _ (by omega) hrr2 hR
                | exact ih m (by omega) (k + 1) _ _ (by omega) hrr2 hR
              · skip
                have g0 : az_b Z 0 k < az_b Z 0 q := by rcases Nat.lt_or_ge (az_b Z 0 k) (az_b Z 0 q) with y | y; exact y; exact absurd ((pm_nle (a := az_b Z 0 q) (b := az_b Z 0 k) (by omega) (by omega)).mpr y) h95
                rw [zN_t g1 (by rw [zF_f g2, decide_eq_true_eq]; omega)] at hR
                have hrr2 : ∀ c, some k = some c → c < az_a Z 0 := fun c e => by rw [← Option.some.inj e]; exact h8
                refine pm_iconst (v := 1) dX7_nextReady_98 (by decide) ?_
                refine pm_goto (tgt := 103) dX7_nextReady_99 (by decide) ?_
                refine pm_istore dX7_nextReady_103 (by decide) ?_
                dsimp only [List.set]
                refine pm_goto (tgt := 135) dX7_nextReady_105 (by decide) ?_
                refine pm_iload dX7_nextReady_135 rfl ?_
                refine pm_if_eq (tgt := 144) dX7_nextReady_137 (by decide) (fun h137 => ?_) (fun h137 => ?_)
                case refine_1 => first | exact absurd h137 (by decide) | exact absurd (by decide) h137
                refine pm_iload_n dX7_nextReady_140 rfl ?_
                refine pm_goto (tgt := 145) dX7_nextReady_141 (by decide) ?_
                refine pm_istn dX7_nextReady_145 (i := 2) rfl (by decide) ?_
                dsimp only [List.set]
                refine pm_iinc dX7_nextReady_146 rfl rfl (by decide) ?_
                dsimp only [List.set]
                refine pm_goto (tgt := 4) dX7_nextReady_149 (by decide) ?_
                rw [show nI k + Int32.ofInt 1 = nI (k + 1) from nI_1 _]
                first
                | exact ih m (by omega) (k + 1) (some k) _ (by omega) hrr2 hR
                | exact ih m (by omega) (k + 1) _ _ (by omega) hrr2 hR
            · skip
              obtain rfl : g = true := by cases g; exact absurd hx h57; rfl
              refine pm_aload_n dX7_nextReady_60 rfl ?_
              refine pm_g_Model_priority hm.1 pm_f_X7_35 (hm.2.1 8 (by decide)).1 dX7_nextReady_61 ?_
              refine pm_iload_n dX7_nextReady_64 rfl ?_
              refine mm_iaload (n := _) hm (by decide) rfl (by show _ < 60; omega) dX7_nextReady_65 ?_
              refine pm_aload_n dX7_nextReady_66 rfl ?_
              refine pm_g_Model_priority hm.1 pm_f_X7_35 (hm.2.1 8 (by decide)).1 dX7_nextReady_67 ?_
              refine pm_iload_n dX7_nextReady_70 rfl ?_
              refine mm_iaload (n := _) hm (by decide) rfl (by show _ < 60; omega) dX7_nextReady_71 ?_
              rw [hr.B (i := 0) h8 rfl, hr.B (i := 0) hq rfl]
              refine pm_icmp_le (tgt := 79) dX7_nextReady_72 (by decide) (fun h72 => ?_) (fun h72 => ?_)
              · skip
                have g0 : az_b Z 0 k ≤ az_b Z 0 q := (pm_nle (a := az_b Z 0 k) (b := az_b Z 0 q) (by omega) (by omega)).mp h72
                rw [zN_f g1 (by rw [zF_t g2, decide_eq_true_eq]; omega)] at hR
                have hrr2 := hrr
                refine pm_iconst (v := 0) dX7_nextReady_79 (by decide) ?_
                refine pm_goto (tgt := 103) dX7_nextReady_80 (by decide) ?_
                refine pm_istore dX7_nextReady_103 (by decide) ?_
                dsimp only [List.set]
                refine pm_goto (tgt := 135) dX7_nextReady_105 (by decide) ?_
                refine pm_iload dX7_nextReady_135 rfl ?_
                refine pm_if_eq (tgt := 144) dX7_nextReady_137 (by decide) (fun h137 => ?_) (fun h137 => ?_)
                case refine_2 => first | exact absurd (by decide) h137 | exact absurd h137 (by decide)
                refine pm_iload_n dX7_nextReady_144 rfl ?_
                refine pm_istn dX7_nextReady_145 (i := 2) rfl (by decide) ?_
                dsimp only [List.set]
                refine pm_iinc dX7_nextReady_146 rfl rfl (by decide) ?_
                dsimp only [List.set]
                refine pm_goto (tgt := 4) dX7_nextReady_149 (by decide) ?_
                rw [show nI k + Int32.ofInt 1 = nI (k + 1) from nI_1 _]
                first
                | exact ih m (by omega) (k + 1) (some k) _ (by omega) hrr2 hR
                | exact ih m (by omega) (k + 1) _ _ (by omega) hrr2 hR
              · skip
                have g0 : ¬ az_b Z 0 k ≤ az_b Z 0 q := fun y => h72 ((pm_nle (a := az_b Z 0 k) (b := az_b Z 0 q) (by omega) (by omega)).mpr y)
                rw [zN_t g1 (by rw [zF_t g2, decide_eq_true_eq]; omega)] at hR
                have hrr2 : ∀ c, some k = some c → c < az_a Z 0 := fun c e => by rw [← Option.some.inj e]; exact h8
                refine pm_iconst (v := 1) dX7_nextReady_75 (by decide) ?_
                refine pm_goto (tgt := 103) dX7_nextReady_76 (by decide) ?_
                refine pm_istore dX7_nextReady_103 (by decide) ?_
                dsimp only [List.set]
                refine pm_goto (tgt := 135) dX7_nextReady_105 (by decide) ?_
                refine pm_iload dX7_nextReady_135 rfl ?_
                refine pm_if_eq (tgt := 144) dX7_nextReady_137 (by decide) (fun h137 => ?_) (fun h137 => ?_)
                case refine_1 => first | exact absurd h137 (by decide) | exact absurd (by decide) h137
                refine pm_iload_n dX7_nextReady_140 rfl ?_
                refine pm_goto (tgt := 145) dX7_nextReady_141 (by decide) ?_
                refine pm_istn dX7_nextReady_145 (i := 2) rfl (by decide) ?_
                dsimp only [List.set]
                refine pm_iinc dX7_nextReady_146 rfl rfl (by decide) ?_
                dsimp only [List.set]
                refine pm_goto (tgt := 4) dX7_nextReady_149 (by decide) ?_
                rw [show nI k + Int32.ofInt 1 = nI (k + 1) from nI_1 _]
                first
                | exact ih m (by omega) (k + 1) (some k) _ (by omega) hrr2 hR
                | exact ih m (by omega) (k + 1) _ _ (by omega) hrr2 hR
        · skip
          obtain rfl : r = none := (zNm_none (fun c e => by have := hrr c e; omega)).mp h26
          rw [zN_none g1] at hR
          have hrr2 : ∀ c, some k = some c → c < az_a Z 0 := fun c e => by rw [← Option.some.inj e]; exact h8
          refine pm_iconst (v := 1) dX7_nextReady_29 (by decide) ?_
          refine pm_goto (tgt := 34) dX7_nextReady_30 (by decide) ?_
          refine pm_istore dX7_nextReady_34 (by decide) ?_
          dsimp only [List.set]
          refine pm_iload dX7_nextReady_36 rfl ?_
          refine pm_if_ne (tgt := 108) dX7_nextReady_38 (by decide) (fun h38 => ?_) (fun h38 => ?_)
          case refine_2 => first | exact absurd (by decide) h38 | exact absurd h38 (by decide)
          refine pm_iload dX7_nextReady_108 rfl ?_
          refine pm_if_ne (tgt := 135) dX7_nextReady_110 (by decide) (fun h110 => ?_) (fun h110 => ?_)
          case refine_2 => first | exact absurd (by decide) h110 | exact absurd h110 (by decide)
          refine pm_iload dX7_nextReady_135 rfl ?_
          refine pm_if_eq (tgt := 144) dX7_nextReady_137 (by decide) (fun h137 => ?_) (fun h137 => ?_)
          case refine_1 => first | exact absurd h137 (by decide) | exact absurd (by decide) h137
          refine pm_iload_n dX7_nextReady_140 rfl ?_
          refine pm_goto (tgt := 145) dX7_nextReady_141 (by decide) ?_
          refine pm_istn dX7_nextReady_145 (i := 2) rfl (by decide) ?_
          dsimp only [List.set]
          refine pm_iinc dX7_nextReady_146 rfl rfl (by decide) ?_
          dsimp only [List.set]
          refine pm_goto (tgt := 4) dX7_nextReady_149 (by decide) ?_
          rw [show nI k + Int32.ofInt 1 = nI (k + 1) from nI_1 _]
          first
          | exact ih m (by omega) (k + 1) (some k) _ (by omega) hrr2 hR
          | exact ih m (by omega) (k + 1) _ _ (by omega) hrr2 hR
      · skip
        have g1 : ¬ az_b Z 1 k = 0 := fun z => h18 ((pm_e0 (hsm k h8 1 (by decide))).mpr z)
        rw [zN_o g1] at hR
        have hrr2 := hrr
        refine pm_goto (tgt := 146) dX7_nextReady_21 (by decide) ?_
        refine pm_iinc dX7_nextReady_146 rfl rfl (by decide) ?_
        dsimp only [List.set]
        refine pm_goto (tgt := 4) dX7_nextReady_149 (by decide) ?_
        rw [show nI k + Int32.ofInt 1 = nI (k + 1) from nI_1 _]
        first
        | exact ih m (by omega) (k + 1) (some k) _ (by omega) hrr2 hR
        | exact ih m (by omega) (k + 1) _ _ (by omega) hrr2 hR
  refine pm_iconst (v := (-1)) dX7_nextReady_0 (by decide) ?_
  refine pm_istn dX7_nextReady_1 (i := 2) rfl (by decide) ?_
  dsimp only [List.set]
  refine pm_iconst (v := 0) dX7_nextReady_2 (by decide) ?_
  refine pm_istn dX7_nextReady_3 (i := 3) rfl (by decide) ?_
  dsimp only [List.set]
  exact loop (az_a Z 0) 0 none _ (by omega) (fun c e => by cases e) rfl

set_option maxHeartbeats 4000000 in
set_option maxRecDepth 100000 in
theorem runI (G : pm_G) (l : Launch) (bs : Nat) (A : Nat → Nat) (E : pm_S) (s p : Nat) (F : az) (Q9 : Instr → List Value → pm_S → Prop) (v1 v2 : Value) : ∀ (m k : Nat) (Z : az) (M : pm_N) (S : pm_S) (x : Int32) (v6 : Value), pm_MX M S A E → mR (az_a Z 2) Z M → zI s Z → zOps Z → az_a Z 2 = az_a Z 1 → k + m = 12 → p < az_a Z 0 → az_a Z 5 + m < 16777216 → x = (if az_b Z 1 p = 0 then 1 else 0) → zWords m Z p = F → (∀ (M2 : pm_N) (S2 : pm_S) (v4 v5 v6 : Value), pm_MX M2 S2 A E → mR (az_a F 2) F M2 → az_a F 2 = az_a F 1 → pm_W G l bs yX7_run.cls cX7_run 7 false 8 0 0 Q9 139 [.ref (A 50), v1, v2, .int (nI p), v4, v5, v6] [] S2) → pm_W G l bs yX7_run.cls cX7_run 7 false 8 0 0 Q9 81 [.ref (A 50), v1, v2, .int (nI p), .int x, .int (nI k), v6] [] S := by
  intro m
  induction m using Nat.strongRecOn with
  | ind m ih =>
  intro k Z M S x v6 hm hr hI hO h21 hkm hp h5 hx hF hk
  have hn := hI.1
  have hsm := hI.sm
  refine pm_iload dX7_run_81 rfl ?_
  refine pm_bipush (v := 12) dX7_run_83 (by decide) ?_
  refine pm_icmp_ge (tgt := 139) dX7_run_85 (by decide) (fun h85 => ?_) (fun h85 => ?_)
  · skip
    have h8 : k = 12 := by have := (pm_nle (a := 12) (b := k) (by omega) (by omega)).mp h85; omega
    obtain rfl : m = 0 := by omega
    have hE : Z = F := hF
    exact hk M S _ _ _ hm (by rw [← hE]; exact hr) (by rw [← hE]; exact h21)
  · skip
    have h8 : k < 12 := by rcases Nat.lt_or_ge k 12 with y | y; exact y; exact absurd ((pm_nle (a := 12) (b := k) (by omega) (by omega)).mpr y) h85
    obtain ⟨m, rfl⟩ : ∃ m2, m = m2 + 1 := ⟨m - 1, by omega⟩
    rw [zWords] at hF
    refine pm_iload dX7_run_88 rfl ?_
    refine pm_if_eq (tgt := 139) dX7_run_90 (by decide) (fun h90 => ?_) (fun h90 => ?_)
    · skip
      have g0 : ¬ az_b Z 1 p = 0 := fun z => by rw [hx, if_pos z] at h90; cases h90
      rw [if_neg g0] at hF
      have hE : Z = F := hF
      exact hk M S _ _ _ hm (by rw [← hE]; exact hr) (by rw [← hE]; exact h21)
    · skip
      have g0 : az_b Z 1 p = 0 := Classical.byContradiction (fun z => h90 (hx.trans (if_neg z)))
      rw [if_pos g0] at hF
      refine pm_aload_n dX7_run_93 rfl ?_
      refine pm_g_Model_since hm.1 pm_f_X7_81 (hm.2.1 23 (by decide)).1 dX7_run_94 ?_
      refine pm_iload_n dX7_run_97 rfl ?_
      refine mm_iaload (n := _) hm (by decide) rfl (by show _ < 60; omega) dX7_run_98 ?_
      rw [hr.2.2.1 p hp]
      refine pm_istore dX7_run_99 (by decide) ?_
      dsimp only [List.set]
      refine pm_aload_n dX7_run_101 rfl ?_
      refine pm_iload_n dX7_run_102 rfl ?_
      refine pm_vv (c_X7_step G l bs A E M (az_a Z 2) Z s p _ hm hr hI rfl hp g0 hO (by omega)) pm_y_X7_step pm_v_X7_step pm_m_X7_270 (c := 7) (r := (RX7, TX7, 41)) rfl rfl hm.1 dX7_run_103 rfl rfl (by decide) (Nat.le_of_ble_eq_true rfl) (fun S103 h103 => ?_)
      obtain ⟨M103, hm103, hr103⟩ := h103
      have hs := hI.step hp g0 (by omega)
      have h21s : az_a (zStep Z p) 2 = az_a (zStep Z p) 1 := by rw [zStep_eq]; exact zSpread_all 60 _ (hI.wd hp g0 (by omega)).1 (by omega)
      rw [← h21s] at hr103
      have hps : p < az_a (zStep Z p) 0 := by omega
      have hsms := hs.1.sm
      have b5 : az_b (zStep Z p) 5 p ≤ 1073741824 := hs.1.b hps 5
      have b5z : az_b Z 5 p ≤ 1073741824 := hI.b hp 5
      refine pm_aload_n dX7_run_106 rfl ?_
      refine pm_g_Model_state hm103.1 pm_f_X7_29 (hm103.2.1 6 (by decide)).1 dX7_run_107 ?_
      refine pm_iload_n dX7_run_110 rfl ?_
      refine mm_iaload (n := _) hm103 (by decide) rfl (by show _ < 60; omega) dX7_run_111 ?_
      rw [hr103.B (i := 1) hps rfl]
      refine pm_if_ne (tgt := 130) dX7_run_112 (by decide) (fun h112 => ?_) (fun h112 => ?_)
      · skip
        have g1 : ¬ az_b (zStep Z p) 1 p = 0 := fun z => h112 ((pm_e0 (hsms p hps 1 (by decide))).mpr z)
        have hx2 : (0 : Int32) = if az_b (zStep Z p) 1 p = 0 then 1 else 0 := (if_neg g1).symm
        refine pm_iconst (v := 0) dX7_run_130 (by decide) ?_
        refine pm_istore dX7_run_131 (by decide) ?_
        dsimp only [List.set]
        refine pm_iinc dX7_run_133 rfl rfl (by decide) ?_
        dsimp only [List.set]
        refine pm_goto (tgt := 81) dX7_run_136 (by decide) ?_
        rw [show nI k + Int32.ofInt 1 = nI (k + 1) from nI_1 _]
        exact ih m (by omega) (k + 1) (zStep Z p) M103 _ _ _ hm103 hr103 hs.1 (hO.of (zx_step Z p)) h21s (by omega) hps (by rw [hs.2.2.2.1]; omega) hx2 hF hk
      · skip
        have g1 : az_b (zStep Z p) 1 p = 0 := (pm_e0 (hsms p hps 1 (by decide))).mp h112
        have hx2 : (1 : Int32) = if az_b (zStep Z p) 1 p = 0 then 1 else 0 := (if_pos g1).symm
        have e5 := z5_step (s := s) hp g0 h21 g1
        refine pm_aload_n dX7_run_115 rfl ?_
        refine pm_g_Model_since hm103.1 pm_f_X7_81 (hm103.2.1 23 (by decide)).1 dX7_run_116 ?_
        refine pm_iload_n dX7_run_119 rfl ?_
        refine mm_iaload (n := _) hm103 (by decide) rfl (by show _ < 60; omega) dX7_run_120 ?_
        refine pm_iload dX7_run_121 rfl ?_
        rw [hr103.2.2.1 p hps, e5]
        refine pm_icmp_ne (tgt := 130) dX7_run_123 (by decide) (fun h123 => ?_) (fun h123 => ?_)
        · exact absurd rfl h123
        · skip
          skip
          refine pm_iconst (v := 1) dX7_run_126 (by decide) ?_
          refine pm_goto (tgt := 131) dX7_run_127 (by decide) ?_
          refine pm_istore dX7_run_131 (by decide) ?_
          dsimp only [List.set]
          refine pm_iinc dX7_run_133 rfl rfl (by decide) ?_
          dsimp only [List.set]
          refine pm_goto (tgt := 81) dX7_run_136 (by decide) ?_
          rw [show nI k + Int32.ofInt 1 = nI (k + 1) from nI_1 _]
          exact ih m (by omega) (k + 1) (zStep Z p) M103 _ _ _ hm103 hr103 hs.1 (hO.of (zx_step Z p)) h21s (by omega) hps (by rw [hs.2.2.2.1]; omega) hx2 hF hk
set_option maxHeartbeats 4000000 in
set_option maxRecDepth 100000 in
theorem c_X7_run (G : pm_G) (l : Launch) (bs : Nat) (A : Nat → Nat) (E : pm_S) (M : pm_N) (b : Nat) (Z : az) (s : Nat) (n r : Nat) (F : az) (S : pm_S) (hm : pm_MX M S A E) (hr : mR b Z M) (hI : zI s Z) (hb : b = az_a Z 2) (h21 : az_a Z 2 = az_a Z 1) (hO : zOps Z) (hn60 : n ≤ 60) (h5 : az_a Z 5 + 12 * n < 16777216) (h4 : az_a Z 4 + n < 1048576) (hF : (zRun n Z).2 = F) (hr0 : (zRun n Z).1 = r) : pm_M G l bs yX7_run cX7_run 7 (some .int) 8 0 0 [.ref (A 50), .int (nI n)] S (pm_qi (fun x S2 => x = nI r ∧ ∃ A2 M2, (∀ i, i ≠ 60 → A2 i = A i) ∧ A2 60 = 0 ∧ pm_MX M2 S2 A2 E ∧ mR (az_a F 2) F M2 ∧ az_a F 2 = az_a F 1)) := by
  refine pm_Mi (L := [.ref (A 50), .int (nI n), pm_u, pm_u, pm_u, pm_u, pm_u]) (by decide +kernel) rfl (pm_en_1 rfl (pm_en_1 rfl (pm_en_0 rfl))) ?_
  generalize hQ9 : pm_xi (fun x S2 => x = nI r ∧ ∃ A2 M2, (∀ i, i ≠ 60 → A2 i = A i) ∧ A2 60 = 0 ∧ pm_MX M2 S2 A2 E ∧ mR (az_a F 2) F M2 ∧ az_a F 2 = az_a F 1) = Q9
  have loop : ∀ (A9 : Nat → Nat), (∀ i, i ≠ 60 → A9 i = A i) → A9 60 = 0 → ∀ (m k : Nat) (Z9 : az) (M9 : pm_N) (S9 : pm_S) (v3 v4 v5 v6 : Value), k + m = n → pm_MX M9 S9 A9 E → mR (az_a Z9 2) Z9 M9 → zI s Z9 → zOps Z9 → az_a Z9 2 = az_a Z9 1 → az_a Z9 5 + 12 * m < 16777216 → az_a Z9 4 + m < 1048576 → (zRun m Z9).2 = F → k + (zRun m Z9).1 = r → pm_W G l bs yX7_run.cls cX7_run 7 false 8 0 0 Q9 27 [.ref (A9 50), .int (nI n), .int (nI k), v3, v4, v5, v6] [] S9 := by
    clear hm hr
    intro A9 hA2 hA1
    intro m
    induction m using Nat.strongRecOn with
    | ind m ih =>
    intro k Z9 M9 S9 v3 v4 v5 v6 hkm hm9 hr9 hI9 hO9 h21 h5 h4 hF hr
    have hn := hI9.1
    refine pm_iload_n dX7_run_27 rfl ?_
    refine pm_iload_n dX7_run_28 rfl ?_
    refine pm_icmp_ge (tgt := 156) dX7_run_29 (by decide) (fun h29 => ?_) (fun h29 => ?_)
    · skip
      have h8 : k = n := by have := (pm_nle (a := n) (b := k) (by omega) (by omega)).mp h29; omega
      obtain rfl : m = 0 := by omega
      have hE : Z9 = F := hF
      have hr : k + 0 = r := hr
      refine pm_iload_n dX7_run_156 rfl ?_
      subst hQ9
      refine pm_iret dX7_run_157 ?_
      exact ⟨by rw [← hr, Nat.add_zero], A9, M9, hA2, hA1, hm9, by rw [← hE]; exact hr9, by rw [← hE]; exact h21⟩
    · skip
      have h8 : k < n := by rcases Nat.lt_or_ge k n with q | q; exact q; exact absurd ((pm_nle (a := n) (b := k) (by omega) (by omega)).mpr q) h29
      obtain ⟨m, rfl⟩ : ∃ m2, m = m2 + 1 := ⟨m - 1, by omega⟩
      rw [zRun] at hF hr
      refine pm_aload_n dX7_run_32 rfl ?_
      refine pm_aload_n dX7_run_33 rfl ?_
      refine pm_g_Model_slices hm9.1 pm_f_X7_263 dX7_run_34 ?_
      rw [hm9.f (g := 386) (f := 36) rfl]
      refine pm_iconst (v := 1) dX7_run_37 (by decide) ?_
      refine pm_iadd dX7_run_38 ?_
      refine pm_bipush (v := 8) dX7_run_39 (by decide) ?_
      rw [hr9.A (i := 4) rfl, nI_1]
      refine pm_irem dX7_run_41 (by decide) ?_
      rw [show (8 : Int32) = nI 8 from rfl, pk_rem (by omega) (by decide) (by decide)]
      refine pm_if_ne (tgt := 49) dX7_run_42 (by decide) (fun h42 => ?_) (fun h42 => ?_)
      · skip
        have gg : ¬ (az_a Z9 4 + 1) % 8 = 0 := fun z => h42 ((pm_e0 (by omega)).mpr z)
        refine pm_iconst (v := 0) dX7_run_49 (by decide) ?_
        refine pm_vi (c_X7_nextReady G l bs A9 E M9 (az_a Z9 2) Z9 s (decide ((az_a Z9 4 + 1) % 8 = 0)) _ _ hm9 hr9 hI9 (by first | (rw [decide_eq_false gg]; rfl) | (rw [decide_eq_true gg]; rfl))) pm_y_X7_nextReady pm_v_X7_nextReady pm_m_X7_266 (c := 7) (r := (RX7, TX7, 41)) rfl rfl hm9.1 dX7_run_50 rfl rfl (by decide) (Nat.le_of_ble_eq_true rfl) (fun x50 S50 h50 => ?_)
        obtain ⟨e50, rfl⟩ := h50
        have e50 : x50 = zNm (zNextOf Z9) := e50
        subst e50
        refine pm_istn dX7_run_53 (i := 3) rfl (by decide) ?_
        dsimp only [List.set]
        cases hN : zNextOf Z9 with
        | none =>
          rw [hN] at hF hr
          refine pm_iload_n dX7_run_54 rfl ?_
          refine pm_iconst (v := (-1)) dX7_run_55 (by decide) ?_
          rw [show zNm none = -1 from rfl]
          refine pm_icmp_ne (tgt := 62) dX7_run_56 (by decide) (fun h56 => ?_) (fun h56 => ?_)
          · exact absurd rfl h56
          · skip
            skip
            refine pm_goto (tgt := 156) dX7_run_59 (by decide) ?_
            refine pm_iload_n dX7_run_156 rfl ?_
            subst hQ9
            refine pm_iret dX7_run_157 ?_
            exact ⟨by rw [← hr]; rfl, A9, M9, hA2, hA1, hm9, by rw [← hF]; exact hr9, by rw [← hF]; exact h21⟩
        | some q =>
          have hq := zNextOf_lt hN
          rw [hN] at hF hr
          have hF : (zRun m (zSlice Z9 q)).2 = F := hF
          have hr : k + ((zRun m (zSlice Z9 q)).1 + 1) = r := hr
          have hs := hI9.slice hq.1 (by omega) (by omega)
          have hwI := zI.words 12 (zs_a Z9 4 (az_a Z9 4 + 1)) q ((hI9.a4 (s := s) (by omega)).down (t := s) (by omega)) hq.1 (by show az_a Z9 5 + 12 < _; omega)
          have hpw : q < az_a (zWords 12 (zs_a Z9 4 (az_a Z9 4 + 1)) q) 0 := Nat.lt_of_lt_of_le hq.1 hwI.2.1
          have hsw := hwI.1.sm
          have hw60 := hwI.1.1
          refine pm_iload_n dX7_run_54 rfl ?_
          refine pm_iconst (v := (-1)) dX7_run_55 (by decide) ?_
          rw [show zNm (some q) = nI q from rfl]
          refine pm_icmp_ne (tgt := 62) dX7_run_56 (by decide) (fun h56 => ?_) (fun h56 => ?_)
          · skip
            skip
            refine pm_aload_n dX7_run_62 rfl ?_
            refine pm_dup dX7_run_63 ?_
            refine pm_g_Model_slices hm9.1 pm_f_X7_263 dX7_run_64 ?_
            rw [hm9.f (g := 386) (f := 36) rfl]
            refine pm_iconst (v := 1) dX7_run_67 (by decide) ?_
            refine pm_iadd dX7_run_68 ?_
            rw [hr9.A (i := 4) rfl, nI_1]
            refine pm_p_Model_slices hm9.1 pm_f_X7_263 dX7_run_69 ?_
            refine mm_gen (hm9.si (g := 386) (f := 36) rfl) (fun S69 hm69 => ?_)
            have hr69 := hr9.a0 (f := 36) (i := 4) (v := az_a Z9 4 + 1) rfl (by decide)
            have hI69 := (hI9.a4 (s := s) (by omega)).down (t := s) (by omega)
            refine pm_iinc dX7_run_72 rfl rfl (by decide) ?_
            dsimp only [List.set]
            rw [show nI k + Int32.ofInt 1 = nI (k + 1) from nI_1 _]
            refine pm_iconst (v := 1) dX7_run_75 (by decide) ?_
            refine pm_istore dX7_run_76 (by decide) ?_
            dsimp only [List.set]
            refine pm_iconst (v := 0) dX7_run_78 (by decide) ?_
            refine pm_istore dX7_run_79 (by decide) ?_
            dsimp only [List.set]
            refine runI G l bs A9 E s q (zWords 12 (zs_a Z9 4 (az_a Z9 4 + 1)) q) Q9 _ _ 12 0 (zs_a Z9 4 (az_a Z9 4 + 1)) _ _ 1 _ hm69 hr69 hI69 hO9 h21 (by omega) hq.1 (by show az_a Z9 5 + 12 < _; omega) (if_pos hq.2).symm rfl (fun M2 S2 v4 v5 v6 hm2 hr2 h212 => ?_)
            have hb2 : az_a (zSlice Z9 q) 2 = az_a (zWords 12 (zs_a Z9 4 (az_a Z9 4 + 1)) q) 2 := by unfold zSlice; dsimp only; split <;> rfl
            have hb1 : az_a (zSlice Z9 q) 1 = az_a (zWords 12 (zs_a Z9 4 (az_a Z9 4 + 1)) q) 1 := by unfold zSlice; dsimp only; split <;> rfl
            have hb3 : az_a (zSlice Z9 q) 2 = az_a (zSlice Z9 q) 1 := by rw [hb2, hb1]; exact h212
            refine pm_aload_n dX7_run_139 rfl ?_
            refine pm_g_Model_state hm2.1 pm_f_X7_29 (hm2.2.1 6 (by decide)).1 dX7_run_140 ?_
            refine pm_iload_n dX7_run_143 rfl ?_
            refine mm_iaload (n := _) hm2 (by decide) rfl (by show _ < 60; omega) dX7_run_144 ?_
            rw [hr2.B (i := 1) hpw rfl]
            refine pm_if_ne (tgt := 153) dX7_run_145 (by decide) (fun h145 => ?_) (fun h145 => ?_)
            · skip
              have g1 : ¬ az_b (zWords 12 (zs_a Z9 4 (az_a Z9 4 + 1)) q) 1 q = 0 := fun z => h145 ((pm_e0 (hsw q hpw 1 (by decide))).mpr z)
              have eS : zSlice Z9 q = (zWords 12 (zs_a Z9 4 (az_a Z9 4 + 1)) q) := if_neg g1
              have hm150 := hm2
              have hr150 := hr2
              obtain ⟨M150, hM150⟩ : ∃ M9, M9 = M2 := ⟨_, rfl⟩
              rw [← hM150] at hm150 hr150
              rw [← eS] at hr150
              refine pm_goto (tgt := 27) dX7_run_153 (by decide) ?_
              exact ih m (by omega) (k + 1) (zSlice Z9 q) M150 _ _ _ _ _ (by omega) hm150 (by first | exact hr150 | (rw [hb2]; exact hr150)) hs.1 (hO9.of (zx_slice Z9 q)) hb3 (by omega) (by omega) hF (by omega)
            · skip
              have g1 : az_b (zWords 12 (zs_a Z9 4 (az_a Z9 4 + 1)) q) 1 q = 0 := (pm_e0 (hsw q hpw 1 (by decide))).mp h145
              have eS : zSlice Z9 q = zTurn (zWords 12 (zs_a Z9 4 (az_a Z9 4 + 1)) q) q := if_pos g1
              refine pm_aload_n dX7_run_148 rfl ?_
              refine pm_iload_n dX7_run_149 rfl ?_
              refine pm_vv (c_X7_becomesReady G l bs A9 E M2 q _ hm2 (by omega)) pm_y_X7_becomesReady pm_v_X7_becomesReady pm_m_X7_128 (c := 7) (r := (RX7, TX7, 41)) rfl rfl hm2.1 dX7_run_150 rfl rfl (by decide) (Nat.le_of_ble_eq_true rfl) (fun S150 h150 => ?_)
              have hm150 := h150
              rw [mx_id (M := M2) (s := 6) (k := q) (v := 0) (by rw [hr2.B (i := 1) hpw rfl, g1]; rfl), hr2.A (i := 3) rfl, nI_1] at hm150
              have hr150 := hr2.turn (p := q) hpw
              rw [← eS] at hr150
              generalize mx (mi M2 26 (nI (az_a (zWords 12 (zs_a Z9 4 (az_a Z9 4 + 1)) q) 3 + 1))) 23 q (nI (az_a (zWords 12 (zs_a Z9 4 (az_a Z9 4 + 1)) q) 3 + 1)) = M150 at hm150 hr150
              refine pm_goto (tgt := 27) dX7_run_153 (by decide) ?_
              exact ih m (by omega) (k + 1) (zSlice Z9 q) M150 _ _ _ _ _ (by omega) hm150 (by first | exact hr150 | (rw [hb2]; exact hr150)) hs.1 (hO9.of (zx_slice Z9 q)) hb3 (by omega) (by omega) hF (by omega)
          · exact absurd h56 (nIm1 (by omega))
      · skip
        have gg : (az_a Z9 4 + 1) % 8 = 0 := (pm_e0 (by omega)).mp h42
        refine pm_iconst (v := 1) dX7_run_45 (by decide) ?_
        refine pm_goto (tgt := 50) dX7_run_46 (by decide) ?_
        refine pm_vi (c_X7_nextReady G l bs A9 E M9 (az_a Z9 2) Z9 s (decide ((az_a Z9 4 + 1) % 8 = 0)) _ _ hm9 hr9 hI9 (by first | (rw [decide_eq_false gg]; rfl) | (rw [decide_eq_true gg]; rfl))) pm_y_X7_nextReady pm_v_X7_nextReady pm_m_X7_266 (c := 7) (r := (RX7, TX7, 41)) rfl rfl hm9.1 dX7_run_50 rfl rfl (by decide) (Nat.le_of_ble_eq_true rfl) (fun x50 S50 h50 => ?_)
        obtain ⟨e50, rfl⟩ := h50
        have e50 : x50 = zNm (zNextOf Z9) := e50
        subst e50
        refine pm_istn dX7_run_53 (i := 3) rfl (by decide) ?_
        dsimp only [List.set]
        cases hN : zNextOf Z9 with
        | none =>
          rw [hN] at hF hr
          refine pm_iload_n dX7_run_54 rfl ?_
          refine pm_iconst (v := (-1)) dX7_run_55 (by decide) ?_
          rw [show zNm none = -1 from rfl]
          refine pm_icmp_ne (tgt := 62) dX7_run_56 (by decide) (fun h56 => ?_) (fun h56 => ?_)
          · exact absurd rfl h56
          · skip
            skip
            refine pm_goto (tgt := 156) dX7_run_59 (by decide) ?_
            refine pm_iload_n dX7_run_156 rfl ?_
            subst hQ9
            refine pm_iret dX7_run_157 ?_
            exact ⟨by rw [← hr]; rfl, A9, M9, hA2, hA1, hm9, by rw [← hF]; exact hr9, by rw [← hF]; exact h21⟩
        | some q =>
          have hq := zNextOf_lt hN
          rw [hN] at hF hr
          have hF : (zRun m (zSlice Z9 q)).2 = F := hF
          have hr : k + ((zRun m (zSlice Z9 q)).1 + 1) = r := hr
          have hs := hI9.slice hq.1 (by omega) (by omega)
          have hwI := zI.words 12 (zs_a Z9 4 (az_a Z9 4 + 1)) q ((hI9.a4 (s := s) (by omega)).down (t := s) (by omega)) hq.1 (by show az_a Z9 5 + 12 < _; omega)
          have hpw : q < az_a (zWords 12 (zs_a Z9 4 (az_a Z9 4 + 1)) q) 0 := Nat.lt_of_lt_of_le hq.1 hwI.2.1
          have hsw := hwI.1.sm
          have hw60 := hwI.1.1
          refine pm_iload_n dX7_run_54 rfl ?_
          refine pm_iconst (v := (-1)) dX7_run_55 (by decide) ?_
          rw [show zNm (some q) = nI q from rfl]
          refine pm_icmp_ne (tgt := 62) dX7_run_56 (by decide) (fun h56 => ?_) (fun h56 => ?_)
          · skip
            skip
            refine pm_aload_n dX7_run_62 rfl ?_
            refine pm_dup dX7_run_63 ?_
            refine pm_g_Model_slices hm9.1 pm_f_X7_263 dX7_run_64 ?_
            rw [hm9.f (g := 386) (f := 36) rfl]
            refine pm_iconst (v := 1) dX7_run_67 (by decide) ?_
            refine pm_iadd dX7_run_68 ?_
            rw [hr9.A (i := 4) rfl, nI_1]
            refine pm_p_Model_slices hm9.1 pm_f_X7_263 dX7_run_69 ?_
            refine mm_gen (hm9.si (g := 386) (f := 36) rfl) (fun S69 hm69 => ?_)
            have hr69 := hr9.a0 (f := 36) (i := 4) (v := az_a Z9 4 + 1) rfl (by decide)
            have hI69 := (hI9.a4 (s := s) (by omega)).down (t := s) (by omega)
            refine pm_iinc dX7_run_72 rfl rfl (by decide) ?_
            dsimp only [List.set]
            rw [show nI k + Int32.ofInt 1 = nI (k + 1) from nI_1 _]
            refine pm_iconst (v := 1) dX7_run_75 (by decide) ?_
            refine pm_istore dX7_run_76 (by decide) ?_
            dsimp only [List.set]
            refine pm_iconst (v := 0) dX7_run_78 (by decide) ?_
            refine pm_istore dX7_run_79 (by decide) ?_
            dsimp only [List.set]
            refine runI G l bs A9 E s q (zWords 12 (zs_a Z9 4 (az_a Z9 4 + 1)) q) Q9 _ _ 12 0 (zs_a Z9 4 (az_a Z9 4 + 1)) _ _ 1 _ hm69 hr69 hI69 hO9 h21 (by omega) hq.1 (by show az_a Z9 5 + 12 < _; omega) (if_pos hq.2).symm rfl (fun M2 S2 v4 v5 v6 hm2 hr2 h212 => ?_)
            have hb2 : az_a (zSlice Z9 q) 2 = az_a (zWords 12 (zs_a Z9 4 (az_a Z9 4 + 1)) q) 2 := by unfold zSlice; dsimp only; split <;> rfl
            have hb1 : az_a (zSlice Z9 q) 1 = az_a (zWords 12 (zs_a Z9 4 (az_a Z9 4 + 1)) q) 1 := by unfold zSlice; dsimp only; split <;> rfl
            have hb3 : az_a (zSlice Z9 q) 2 = az_a (zSlice Z9 q) 1 := by rw [hb2, hb1]; exact h212
            refine pm_aload_n dX7_run_139 rfl ?_
            refine pm_g_Model_state hm2.1 pm_f_X7_29 (hm2.2.1 6 (by decide)).1 dX7_run_140 ?_
            refine pm_iload_n dX7_run_143 rfl ?_
            refine mm_iaload (n := _) hm2 (by decide) rfl (by show _ < 60; omega) dX7_run_144 ?_
            rw [hr2.B (i := 1) hpw rfl]
            refine pm_if_ne (tgt := 153) dX7_run_145 (by decide) (fun h145 => ?_) (fun h145 => ?_)
            · skip
              have g1 : ¬ az_b (zWords 12 (zs_a Z9 4 (az_a Z9 4 + 1)) q) 1 q = 0 := fun z => h145 ((pm_e0 (hsw q hpw 1 (by decide))).mpr z)
              have eS : zSlice Z9 q = (zWords 12 (zs_a Z9 4 (az_a Z9 4 + 1)) q) := if_neg g1
              have hm150 := hm2
              have hr150 := hr2
              obtain ⟨M150, hM150⟩ : ∃ M9, M9 = M2 := ⟨_, rfl⟩
              rw [← hM150] at hm150 hr150
              rw [← eS] at hr150
              refine pm_goto (tgt := 27) dX7_run_153 (by decide) ?_
              exact ih m (by omega) (k + 1) (zSlice Z9 q) M150 _ _ _ _ _ (by omega) hm150 (by first | exact hr150 | (rw [hb2]; exact hr150)) hs.1 (hO9.of (zx_slice Z9 q)) hb3 (by omega) (by omega) hF (by omega)
            · skip
              have g1 : az_b (zWords 12 (zs_a Z9 4 (az_a Z9 4 + 1)) q) 1 q = 0 := (pm_e0 (hsw q hpw 1 (by decide))).mp h145
              have eS : zSlice Z9 q = zTurn (zWords 12 (zs_a Z9 4 (az_a Z9 4 + 1)) q) q := if_pos g1
              refine pm_aload_n dX7_run_148 rfl ?_
              refine pm_iload_n dX7_run_149 rfl ?_
              refine pm_vv (c_X7_becomesReady G l bs A9 E M2 q _ hm2 (by omega)) pm_y_X7_becomesReady pm_v_X7_becomesReady pm_m_X7_128 (c := 7) (r := (RX7, TX7, 41)) rfl rfl hm2.1 dX7_run_150 rfl rfl (by decide) (Nat.le_of_ble_eq_true rfl) (fun S150 h150 => ?_)
              have hm150 := h150
              rw [mx_id (M := M2) (s := 6) (k := q) (v := 0) (by rw [hr2.B (i := 1) hpw rfl, g1]; rfl), hr2.A (i := 3) rfl, nI_1] at hm150
              have hr150 := hr2.turn (p := q) hpw
              rw [← eS] at hr150
              generalize mx (mi M2 26 (nI (az_a (zWords 12 (zs_a Z9 4 (az_a Z9 4 + 1)) q) 3 + 1))) 23 q (nI (az_a (zWords 12 (zs_a Z9 4 (az_a Z9 4 + 1)) q) 3 + 1)) = M150 at hm150 hr150
              refine pm_goto (tgt := 27) dX7_run_153 (by decide) ?_
              exact ih m (by omega) (k + 1) (zSlice Z9 q) M150 _ _ _ _ _ (by omega) hm150 (by first | exact hr150 | (rw [hb2]; exact hr150)) hs.1 (hO9.of (zx_slice Z9 q)) hb3 (by omega) (by omega) hF (by omega)
          · exact absurd h56 (nIm1 (by omega))
  refine pm_aload_n dX7_run_0 rfl ?_
  refine pm_iload_n dX7_run_1 rfl ?_
  refine pm_iconst (v := 0) dX7_run_2 (by decide) ?_
  refine pm_bipush (v := 60) dX7_run_3 (by decide) ?_
  refine pm_ssi (c_X7_within G l bs (nI n) 0 60 _) pm_y_X7_within pm_s_X7_within pm_m_X7_110 dX7_run_5 rfl rfl (by decide) (Nat.le_of_ble_eq_true rfl) (fun x5 S5 h5 => ?_)
  obtain ⟨e5, rfl⟩ := h5
  rw [if_pos ⟨nI_pos' (by omega), (pm_nle (a := n) (b := 60) (by omega) (by omega)).mpr hn60⟩] at e5
  subst e5
  refine pm_if_ne (tgt := 15) dX7_run_8 (by decide) (fun h8 => ?_) (fun h8 => ?_)
  · skip
    skip
    refine pm_iconst (v := 0) dX7_run_15 (by decide) ?_
    refine pm_iconst (v := 1) dX7_run_16 (by decide) ?_
    refine pm_vi (c_X7_fails G l bs A E M 0 1 _ hm (Or.inl rfl)) pm_y_X7_fails pm_v_X7_fails pm_m_X7_114 (c := 7) (r := (RX7, TX7, 41)) rfl rfl hm.1 dX7_run_17 rfl rfl (by decide) (Nat.le_of_ble_eq_true rfl) (fun x17 S17 h17 => ?_)
    obtain ⟨rfl, hm17⟩ := h17
    have hr17 := hr.thr (v := nI (if (0 : Int32) = 0 then 0 else 1))
    have hA1 : aT A (if (0 : Int32) = 0 then 0 else 1) 60 = 0 := rfl
    have hA2 : ∀ i, i ≠ 60 → aT A (if (0 : Int32) = 0 then 0 else 1) i = A i := fun i hi => if_neg hi
    rw [← hA2 50 (by decide)]
    generalize aT A (if (0 : Int32) = 0 then 0 else 1) = A9 at hm17 hA1 hA2 ⊢
    refine pm_if_eq (tgt := 25) dX7_run_20 (by decide) (fun h20 => ?_) (fun h20 => ?_)
    · skip
      skip
      refine pm_iconst (v := 0) dX7_run_25 (by decide) ?_
      refine pm_istn dX7_run_26 (i := 2) rfl (by decide) ?_
      dsimp only [List.set]
      exact loop A9 hA2 hA1 n 0 Z _ _ _ _ _ _ (by omega) hm17 (by rw [← hb]; exact hr17) hI hO h21 h5 h4 hF (by rw [hr0]; omega)
    · exact absurd rfl h20
  · exact absurd h8 (by decide)

