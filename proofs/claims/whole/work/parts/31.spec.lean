/-! what the words, calls and slices do to the abstract state -/
/-- the last turn is its -/
def zTurn (Z : az) (p : Nat) : az := zs_a (zs_b Z 5 p (az_a Z 3)) 3 (az_a Z 3 + 1)
/-- it becomes ready at a word -/
def zReady (Z : az) (p at' : Nat) : az := zTurn (zs_e (zs_b (zs_b Z 1 p 0) 2 p at') 1 p none) p
/-- a new process -/
def zs_n (Z : az) (at' pr : Nat) : az := ((fun i => if i = 0 then az_a Z 0 + 1 else az_a Z i), (fun i q => if q = az_a Z 0 then (if i = 0 then pr else if i = 2 then at' else 0) else az_b Z i q), az_c Z, (fun i q => if (i = 0 ∨ i = 1) ∧ q = az_a Z 0 then none else az_e Z i q), az_f Z, (fun i q k => if q = az_a Z 0 ∧ ((i = 0 ∧ k < 8) ∨ (i = 1 ∧ k = 0)) then [0, 0] else az_t Z i q k), az_x Z, az_w Z)
def zNew (Z : az) (at' pr : Nat) : az := zTurn (zs_n Z at' pr) (az_a Z 0)
theorem z_a_n (Z : az) (a p i : Nat) : az_a (zs_n Z a p) i = if i = 0 then az_a Z 0 + 1 else az_a Z i := rfl
theorem z_b_n (Z : az) (a p i q : Nat) : az_b (zs_n Z a p) i q = if q = az_a Z 0 then (if i = 0 then p else if i = 2 then a else 0) else az_b Z i q := rfl
theorem z_e_n (Z : az) (a p i q : Nat) : az_e (zs_n Z a p) i q = if (i = 0 ∨ i = 1) ∧ q = az_a Z 0 then none else az_e Z i q := rfl
theorem z_t_n (Z : az) (a p i q k : Nat) : az_t (zs_n Z a p) i q k = if q = az_a Z 0 ∧ ((i = 0 ∧ k < 8) ∨ (i = 1 ∧ k = 0)) then [0, 0] else az_t Z i q k := rfl
/-- a message comes: whether there is room, and it is not dead -/
def zComesOk (Z : az) (p : Nat) : Prop := az_b Z 1 p ≠ 2 ∧ az_b Z 9 p < 40
def zComes (Z : az) (p : Nat) (w : List Int32) : az :=
  if az_b Z 1 p ≠ 2 ∧ az_b Z 9 p < 40 then
    let Z1 := zs_a (zs_b (zs_b (zs_t Z 2 p (az_b Z 9 p) w) 9 p (az_b Z 9 p + 1)) 12 p (max (az_b Z 12 p) (az_b Z 9 p + 1))) 7 (az_a Z 7 + 1)
    if az_b Z 1 p = 1 then zReady Z1 p (az_b Z 3 p) else Z1
  else Z
/-- it dies of a reason; what others get of it waits -/
def zDies (Z : az) (p : Nat) (w : List Int32) : az :=
  let Z1 := match az_e Z 0 p with
    | some n => zs_e (zs_e Z 2 n none) 0 p none
    | none => Z
  let Z2 := zs_b (zs_b (zs_b (zs_b (zs_b (zs_t Z1 1 p 0 w) 1 p 2) 9 p 0) 10 p 0) 7 p 0) 8 p 0
  let Z3 := zs_w Z2 ((az_w Z).filter (fun t => decide (t.2.1 ≠ p)))
  zs_a (zs_c Z3 3 0 (az_a Z 1) p) 1 (az_a Z 1 + 1)
/-- q gets an exit from p -/
def zExit (Z : az) (q p : Nat) (w : List Int32) (byWord : Bool) : az :=
  if az_b Z 1 q = 2 then Z
  else if byWord = true ∧ w = [1, 1] then zDies Z q [1, 2]
  else if az_b Z 11 q = 1 then zComes Z q (tl_r [-1, 1, 6, -1, 2, nI (p + 1)] w)
  else if w = [1, 0] ∧ p ≠ q then Z
  else zDies Z q w
def zDown (Z : az) (p number whom : Nat) (w : List Int32) : az := zComes Z p (tl_r [-1, 1, 7, -1, 0, nI number, -1, 2, nI (whom + 1)] w)
def zLink (Z : az) (p q : Nat) (v : Bool) : az := zs_f (zs_f Z p q v) q p v
/-- those that are linked with p, from q on, k of them looked at -/
def zTellL : Nat → az → Nat → Nat → az
  | 0, Z, _, _ => Z
  | k + 1, Z, p, q => zTellL k (if az_f Z p q = true then zExit (zLink Z p q false) q p (az_t Z 1 p 0) false else Z) p (q + 1)
def zTellW : List (Nat × Nat × Nat) → az → Nat → az
  | [], Z, _ => Z
  | t :: l, Z, p => zTellW l (if t.2.2 = p then zDown Z t.2.1 t.1 p (az_t Z 1 p 0) else Z) p
/-- what others get of one death -/
def zTell (Z : az) (p : Nat) : az :=
  let Z1 := zTellL (az_a Z 0) Z p 0
  let Z2 := zTellW (az_w Z1) Z1 p
  zs_w Z2 ((az_w Z2).filter (fun t => decide (t.2.2 ≠ p)))
/-- of all deaths, at most k more -/
def zSpread : Nat → az → az
  | 0, Z => Z
  | k + 1, Z => if az_a Z 2 < az_a Z 1 then zSpread k (zTell (zs_a Z 2 (az_a Z 2 + 1)) (az_c Z 3 0 (az_a Z 2))) else Z
/-- it fails with a term -/
def zFails (Z : az) (p : Nat) (w : List Int32) : az :=
  if az_b Z 8 p = 0 then zDies Z p w
  else
    let k := az_b Z 8 p - 1
    zs_t (zs_b (zs_b (zs_b Z 8 p k) 2 p (az_c Z 1 p k)) 7 p (min (az_b Z 7 p) (az_c Z 2 p k))) 0 p 0 w
def zAt (Z : az) (p at' : Nat) : az := zs_b Z 2 p at'
/-- numbers a term prints -/
def zPrint : List Int32 → az → az
  | [], Z => Z
  | v :: l, Z => zPrint l (zs_a (if az_a Z 9 < 600 then zs_x Z 1 (az_a Z 9) v else Z) 9 (az_a Z 9 + 1))
def zKind (w : List Int32) : Int32 := pm_kd (w.getD 0 0)
def zVal (w : List Int32) : Int32 := w.getD 1 0
/-- of a pid in a term, the process; of an atom, who has the name -/
def zPid (w : List Int32) : Nat := (zVal w).toInt.toNat - 1
def zFirst (w : List Int32) : List Int32 := (w.drop 1).take (tl_e 95 w 1 1 - 1)
def zSecond (w : List Int32) : List Int32 := (w.drop (tl_e 95 w 1 1)).take (w.length - tl_e 95 w 1 1)
def zCmp (u w : List Int32) : Int32 := tl_c 95 u w (min u.length w.length) 0
def zBad (Z : az) (p : Nat) : az := zFails Z p [1, 4]
def zLim (Z : az) (p : Nat) : az := zFails Z p [1, 5]
/-- one word of process p, with its numbers a, b, c: what it does, but for what others get of deaths -/
def zWord (Z : az) (p op : Nat) (a b c : Int32) : az :=
  let ja := pm_mod a 8
  let xa := az_t Z 0 p ja
  let xb := az_t Z 0 p (pm_mod b 8)
  let xc := az_t Z 0 p (pm_mod c 8)
  let to := pm_mod a 300
  let there := az_b Z 10 p < az_b Z 9 p
  match op with
  | 0 => zDies Z p [1, 0]
  | 1 => zs_t Z 0 p ja [0, b]
  | 2 => zs_t Z 0 p ja [1, nI (pm_mod b 100)]
  | 3 => zs_t Z 0 p ja xb
  | 4 => if zKind xb = 0 ∧ zKind xc = 0 then zs_t Z 0 p ja [0, zVal xb + zVal xc] else zBad Z p
  | 5 => if zKind xb = 0 ∧ zKind xc = 0 then zs_t Z 0 p ja [0, zVal xb - zVal xc] else zBad Z p
  | 6 => if zKind xb = 0 ∧ zKind xc = 0 then zs_t Z 0 p ja [0, zVal xb * zVal xc] else zBad Z p
  | 7 => if 1 + xb.length + xc.length ≤ 95 then zs_t Z 0 p ja (-1 :: (xb ++ xc)) else zLim Z p
  | 8 => if zKind xb = 3 then zs_t Z 0 p ja (zFirst xb) else zBad Z p
  | 9 => if zKind xb = 3 then zs_t Z 0 p ja (zSecond xb) else zBad Z p
  | 10 => zs_t Z 0 p ja [0, zKind xb]
  | 11 => zAt Z p to
  | 12 => if zCmp xb xc = 0 then zAt Z p to else Z
  | 13 => if zCmp xb xc < 0 then zAt Z p to else Z
  | 14 => if zCmp xb xc ≤ 0 then zAt Z p to else Z
  | 15 => if az_b Z 7 p < 16 then zAt (zs_b (zs_c Z 0 p (az_b Z 7 p) (az_b Z 2 p)) 7 p (az_b Z 7 p + 1)) p to else zLim Z p
  | 16 => if az_b Z 7 p = 0 then zDies Z p [1, 0] else zAt (zs_b Z 7 p (az_b Z 7 p - 1)) p (az_c Z 0 p (az_b Z 7 p - 1))
  | 17 => if az_b Z 8 p < 8 then zs_b (zs_c (zs_c Z 1 p (az_b Z 8 p) to) 2 p (az_b Z 8 p) (az_b Z 7 p)) 8 p (az_b Z 8 p + 1) else zLim Z p
  | 18 => if az_b Z 8 p = 0 then Z else zs_b Z 8 p (az_b Z 8 p - 1)
  | 19 => zFails Z p xa
  | 20 => zs_t Z 0 p ja [2, nI (p + 1)]
  | 21 => if az_a Z 0 < 60 then
      let q := az_a Z 0
      zs_t (zs_t (zs_t (zNew Z (pm_mod b 300) (az_b Z 0 p)) 0 q 0 [2, nI (p + 1)]) 0 q 1 xc) 0 p ja [2, nI (q + 1)]
    else zLim Z p
  | 22 => if az_a Z 0 < 60 then
      let q := az_a Z 0
      zs_t (zLink (zs_t (zs_t (zNew Z (pm_mod b 300) (az_b Z 0 p)) 0 q 0 [2, nI (p + 1)]) 0 q 1 xc) p q true) 0 p ja [2, nI (q + 1)]
    else zLim Z p
  | 23 => if zKind xa = 2 then zComes Z (zPid xa) xb
    else if zKind xa = 1 then (match az_e Z 2 (zVal xa).toInt.toNat with
      | some q => if (zVal xa).toInt < 100 ∧ 0 ≤ (zVal xa).toInt then zComes Z q xb else Z
      | none => Z)
    else zBad Z p
  | 24 => if there then zs_t Z 0 p (pm_mod b 8) (az_t Z 2 p (az_b Z 10 p)) else zAt Z p to
  | 25 => zs_b (if there then zs_b (zs_m Z p (fun k => if k < az_b Z 10 p then az_t Z 2 p k else az_t Z 2 p (k + 1))) 9 p (az_b Z 9 p - 1) else Z) 10 p 0
  | 26 => if there then zs_b Z 10 p (az_b Z 10 p + 1) else Z
  | 27 => if there then zAt Z p to else zs_e (zs_b (zs_b (zs_b Z 1 p 1) 3 p to) 4 p to) 1 p none
  | 28 => if there then zAt Z p to
    else if zKind xb ≠ 0 then zBad Z p
    else if zVal xb < 1 then zAt (zs_b Z 10 p 0) p (pm_mod c 300)
    else zs_e (zs_b (zs_b (zs_b Z 1 p 1) 3 p to) 4 p (pm_mod c 300)) 1 p (some (az_a Z 6 + (zVal xb).toInt.toNat))
  | 29 => if zKind xa ≠ 2 then zBad Z p
    else if az_b Z 1 (zPid xa) = 2 then zExit Z p (zPid xa) [1, 3] false
    else if zPid xa = p then Z else zLink Z p (zPid xa) true
  | 30 => if zKind xa ≠ 2 then zBad Z p else zLink Z p (zPid xa) false
  | 31 => if zKind xb ≠ 2 then zBad Z p
    else if 200 ≤ (az_w Z).length then zLim Z p
    else
      let m := az_a Z 8 + 1
      let Z1 := zs_t (zs_a Z 8 m) 0 p ja [0, nI m]
      if az_b Z 1 (zPid xb) = 2 then zDown Z1 p m (zPid xb) [1, 3] else zs_w Z1 (az_w Z ++ [(m, p, zPid xb)])
  | 32 => if zKind xa ≠ 2 then zBad Z p else zExit Z (zPid xa) p xb true
  | 33 => zs_b Z 11 p (if a = 0 then 0 else 1)
  | 34 => if az_e Z 0 p = none ∧ az_e Z 2 (pm_mod a 100) = none then zs_e (zs_e Z 0 p (some (pm_mod a 100))) 2 (pm_mod a 100) (some p) else zBad Z p
  | 35 => (match az_e Z 2 (pm_mod b 100) with
    | some q => zs_t Z 0 p ja [2, nI (q + 1)]
    | none => zs_t Z 0 p ja [1, 3])
  | _ => zPrint xa Z
/-- one word, and what others get of deaths -/
def zStep (Z : az) (p : Nat) : az :=
  let k := 4 * az_b Z 2 p
  let Z1 := zs_a (zs_b (zs_b Z 2 p ((az_b Z 2 p + 1) % 300)) 6 p (az_b Z 6 p + 1)) 5 (az_a Z 5 + 1)
  zSpread 60 (zWord Z1 p (az_x Z 0 k).toInt.toNat (az_x Z 0 (k + 1)) (az_x Z 0 (k + 2)) (az_x Z 0 (k + 3)))
/-- up to k words -/
def zWords : Nat → az → Nat → az
  | 0, Z, _ => Z
  | k + 1, Z, p => if az_b Z 1 p = 0 then zWords k (zStep Z p) p else Z
def zSlice (Z : az) (p : Nat) : az :=
  let Z1 := zWords 12 (zs_a Z 4 (az_a Z 4 + 1)) p
  if az_b Z1 1 p = 0 then zTurn Z1 p else Z1
/-- does p come before q -/
def zFirstOf (Z : az) (g : Bool) (p q : Nat) : Bool :=
  if az_b Z 0 p = az_b Z 0 q then decide (az_b Z 5 p < az_b Z 5 q) else (if g then decide (az_b Z 0 q < az_b Z 0 p) else decide (az_b Z 0 p < az_b Z 0 q))
/-- the one whose turn it is, of those from p on, k of them looked at; the best so far -/
def zNext (Z : az) (g : Bool) : Nat → Nat → Option Nat → Option Nat
  | 0, _, r => r
  | k + 1, p, r => zNext Z g k (p + 1) (if az_b Z 1 p = 0 then (match r with | none => some p | some q => if zFirstOf Z g p q then some p else r) else r)
def zNextOf (Z : az) : Option Nat := zNext Z (decide ((az_a Z 4 + 1) % 8 = 0)) (az_a Z 0) 0 none
/-- so many slices at most: how many, and the state -/
def zRun : Nat → az → Nat × az
  | 0, Z => (0, Z)
  | k + 1, Z => match zNextOf Z with
    | none => (0, Z)
    | some p => let r := zRun k (zSlice Z p); (r.1 + 1, r.2)
/-- the first that has waited too long -/
def zDue (Z : az) : Nat → Nat → Option Nat → Option Nat
  | 0, _, r => r
  | k + 1, p, r => zDue Z k (p + 1) (match az_e Z 1 p with
    | some u => if az_b Z 1 p = 1 ∧ u ≤ az_a Z 6 then (match r with
        | none => some p
        | some q => if u < (az_e Z 1 q).getD 0 then some p else r) else r
    | none => r)
def zPass : Nat → az → Nat × az
  | 0, Z => (0, Z)
  | k + 1, Z => match zDue Z (az_a Z 0) 0 none with
    | none => (0, Z)
    | some p => let r := zPass k (zReady (zs_b Z 10 p 0) p (az_b Z 4 p)); (r.1 + 1, r.2)
