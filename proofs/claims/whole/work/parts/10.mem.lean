/-! the small memory of the class, the reference and the law: by address a kind (0: nothing of ours; 1 .. 8: an object of class number kind - 1; 9 ints, 10 booleans, 11 longs, 12 processes, 13 terms: arrays), a length; by field number and address an int, a long, a reference; by address and place an int, a long, a reference -/
def pm_S : Type := (Nat → Nat) × (Nat → Nat) × (Nat → Nat → Int32) × (Nat → Nat → Int64) × (Nat → Nat → Option Nat) × (Nat → Nat → Int32) × (Nat → Nat → Int64) × (Nat → Nat → Option Nat)
def pm_k (S : pm_S) : Nat → Nat := S.1
def pm_n (S : pm_S) : Nat → Nat := S.2.1
def pm_i (S : pm_S) : Nat → Nat → Int32 := S.2.2.1
def pm_j (S : pm_S) : Nat → Nat → Int64 := S.2.2.2.1
def pm_p (S : pm_S) : Nat → Nat → Option Nat := S.2.2.2.2.1
def pm_x (S : pm_S) : Nat → Nat → Int32 := S.2.2.2.2.2.1
def pm_y (S : pm_S) : Nat → Nat → Int64 := S.2.2.2.2.2.2.1
def pm_z (S : pm_S) : Nat → Nat → Option Nat := S.2.2.2.2.2.2.2
def pm_si (S : pm_S) (f a : Nat) (v : Int32) : pm_S := (pm_k S, pm_n S, (fun g b => if g = f ∧ b = a then v else pm_i S g b), pm_j S, pm_p S, pm_x S, pm_y S, pm_z S)
def pm_sj (S : pm_S) (f a : Nat) (v : Int64) : pm_S := (pm_k S, pm_n S, pm_i S, (fun g b => if g = f ∧ b = a then v else pm_j S g b), pm_p S, pm_x S, pm_y S, pm_z S)
def pm_sp (S : pm_S) (f a : Nat) (v : Option Nat) : pm_S := (pm_k S, pm_n S, pm_i S, pm_j S, (fun g b => if g = f ∧ b = a then v else pm_p S g b), pm_x S, pm_y S, pm_z S)
def pm_sx (S : pm_S) (a i : Nat) (v : Int32) : pm_S := (pm_k S, pm_n S, pm_i S, pm_j S, pm_p S, (fun b e => if b = a ∧ e = i then v else pm_x S b e), pm_y S, pm_z S)
def pm_sy (S : pm_S) (a i : Nat) (v : Int64) : pm_S := (pm_k S, pm_n S, pm_i S, pm_j S, pm_p S, pm_x S, (fun b e => if b = a ∧ e = i then v else pm_y S b e), pm_z S)
def pm_sz (S : pm_S) (a i : Nat) (v : Option Nat) : pm_S := (pm_k S, pm_n S, pm_i S, pm_j S, pm_p S, pm_x S, pm_y S, (fun b e => if b = a ∧ e = i then v else pm_z S b e))
def pm_sr (S : pm_S) (a : Nat) (r : Nat → Int32) : pm_S := (pm_k S, pm_n S, pm_i S, pm_j S, pm_p S, (fun b e => if b = a then r e else pm_x S b e), pm_y S, pm_z S)
def pm_nw (S : pm_S) (a k n : Nat) : pm_S := ((fun b => if b = a then k else pm_k S b), (fun b => if b = a then n else pm_n S b), (fun g b => if b = a then 0 else pm_i S g b), (fun g b => if b = a then 0 else pm_j S g b), (fun g b => if b = a then none else pm_p S g b), (fun b e => if b = a then 0 else pm_x S b e), (fun b e => if b = a then 0 else pm_y S b e), (fun b e => if b = a then none else pm_z S b e))
theorem pm_k_si (S : pm_S) (f a : Nat) (v : Int32) (b : Nat) : pm_k (pm_si S f a v) b = pm_k S b := rfl
theorem pm_n_si (S : pm_S) (f a : Nat) (v : Int32) (b : Nat) : pm_n (pm_si S f a v) b = pm_n S b := rfl
theorem pm_i_si (S : pm_S) (f a : Nat) (v : Int32) (g b : Nat) : pm_i (pm_si S f a v) g b = if g = f ∧ b = a then v else pm_i S g b := rfl
theorem pm_j_si (S : pm_S) (f a : Nat) (v : Int32) (g b : Nat) : pm_j (pm_si S f a v) g b = pm_j S g b := rfl
theorem pm_p_si (S : pm_S) (f a : Nat) (v : Int32) (g b : Nat) : pm_p (pm_si S f a v) g b = pm_p S g b := rfl
theorem pm_x_si (S : pm_S) (f a : Nat) (v : Int32) (b e : Nat) : pm_x (pm_si S f a v) b e = pm_x S b e := rfl
theorem pm_y_si (S : pm_S) (f a : Nat) (v : Int32) (b e : Nat) : pm_y (pm_si S f a v) b e = pm_y S b e := rfl
theorem pm_z_si (S : pm_S) (f a : Nat) (v : Int32) (b e : Nat) : pm_z (pm_si S f a v) b e = pm_z S b e := rfl
theorem pm_k_sj (S : pm_S) (f a : Nat) (v : Int64) (b : Nat) : pm_k (pm_sj S f a v) b = pm_k S b := rfl
theorem pm_n_sj (S : pm_S) (f a : Nat) (v : Int64) (b : Nat) : pm_n (pm_sj S f a v) b = pm_n S b := rfl
theorem pm_i_sj (S : pm_S) (f a : Nat) (v : Int64) (g b : Nat) : pm_i (pm_sj S f a v) g b = pm_i S g b := rfl
theorem pm_j_sj (S : pm_S) (f a : Nat) (v : Int64) (g b : Nat) : pm_j (pm_sj S f a v) g b = if g = f ∧ b = a then v else pm_j S g b := rfl
theorem pm_p_sj (S : pm_S) (f a : Nat) (v : Int64) (g b : Nat) : pm_p (pm_sj S f a v) g b = pm_p S g b := rfl
theorem pm_x_sj (S : pm_S) (f a : Nat) (v : Int64) (b e : Nat) : pm_x (pm_sj S f a v) b e = pm_x S b e := rfl
theorem pm_y_sj (S : pm_S) (f a : Nat) (v : Int64) (b e : Nat) : pm_y (pm_sj S f a v) b e = pm_y S b e := rfl
theorem pm_z_sj (S : pm_S) (f a : Nat) (v : Int64) (b e : Nat) : pm_z (pm_sj S f a v) b e = pm_z S b e := rfl
theorem pm_k_sp (S : pm_S) (f a : Nat) (v : Option Nat) (b : Nat) : pm_k (pm_sp S f a v) b = pm_k S b := rfl
theorem pm_n_sp (S : pm_S) (f a : Nat) (v : Option Nat) (b : Nat) : pm_n (pm_sp S f a v) b = pm_n S b := rfl
theorem pm_i_sp (S : pm_S) (f a : Nat) (v : Option Nat) (g b : Nat) : pm_i (pm_sp S f a v) g b = pm_i S g b := rfl
theorem pm_j_sp (S : pm_S) (f a : Nat) (v : Option Nat) (g b : Nat) : pm_j (pm_sp S f a v) g b = pm_j S g b := rfl
theorem pm_p_sp (S : pm_S) (f a : Nat) (v : Option Nat) (g b : Nat) : pm_p (pm_sp S f a v) g b = if g = f ∧ b = a then v else pm_p S g b := rfl
theorem pm_x_sp (S : pm_S) (f a : Nat) (v : Option Nat) (b e : Nat) : pm_x (pm_sp S f a v) b e = pm_x S b e := rfl
theorem pm_y_sp (S : pm_S) (f a : Nat) (v : Option Nat) (b e : Nat) : pm_y (pm_sp S f a v) b e = pm_y S b e := rfl
theorem pm_z_sp (S : pm_S) (f a : Nat) (v : Option Nat) (b e : Nat) : pm_z (pm_sp S f a v) b e = pm_z S b e := rfl
theorem pm_k_sx (S : pm_S) (a i : Nat) (v : Int32) (b : Nat) : pm_k (pm_sx S a i v) b = pm_k S b := rfl
theorem pm_n_sx (S : pm_S) (a i : Nat) (v : Int32) (b : Nat) : pm_n (pm_sx S a i v) b = pm_n S b := rfl
theorem pm_i_sx (S : pm_S) (a i : Nat) (v : Int32) (g b : Nat) : pm_i (pm_sx S a i v) g b = pm_i S g b := rfl
theorem pm_j_sx (S : pm_S) (a i : Nat) (v : Int32) (g b : Nat) : pm_j (pm_sx S a i v) g b = pm_j S g b := rfl
theorem pm_p_sx (S : pm_S) (a i : Nat) (v : Int32) (g b : Nat) : pm_p (pm_sx S a i v) g b = pm_p S g b := rfl
theorem pm_x_sx (S : pm_S) (a i : Nat) (v : Int32) (b e : Nat) : pm_x (pm_sx S a i v) b e = if b = a ∧ e = i then v else pm_x S b e := rfl
theorem pm_y_sx (S : pm_S) (a i : Nat) (v : Int32) (b e : Nat) : pm_y (pm_sx S a i v) b e = pm_y S b e := rfl
theorem pm_z_sx (S : pm_S) (a i : Nat) (v : Int32) (b e : Nat) : pm_z (pm_sx S a i v) b e = pm_z S b e := rfl
theorem pm_k_sy (S : pm_S) (a i : Nat) (v : Int64) (b : Nat) : pm_k (pm_sy S a i v) b = pm_k S b := rfl
theorem pm_n_sy (S : pm_S) (a i : Nat) (v : Int64) (b : Nat) : pm_n (pm_sy S a i v) b = pm_n S b := rfl
theorem pm_i_sy (S : pm_S) (a i : Nat) (v : Int64) (g b : Nat) : pm_i (pm_sy S a i v) g b = pm_i S g b := rfl
theorem pm_j_sy (S : pm_S) (a i : Nat) (v : Int64) (g b : Nat) : pm_j (pm_sy S a i v) g b = pm_j S g b := rfl
theorem pm_p_sy (S : pm_S) (a i : Nat) (v : Int64) (g b : Nat) : pm_p (pm_sy S a i v) g b = pm_p S g b := rfl
theorem pm_x_sy (S : pm_S) (a i : Nat) (v : Int64) (b e : Nat) : pm_x (pm_sy S a i v) b e = pm_x S b e := rfl
theorem pm_y_sy (S : pm_S) (a i : Nat) (v : Int64) (b e : Nat) : pm_y (pm_sy S a i v) b e = if b = a ∧ e = i then v else pm_y S b e := rfl
theorem pm_z_sy (S : pm_S) (a i : Nat) (v : Int64) (b e : Nat) : pm_z (pm_sy S a i v) b e = pm_z S b e := rfl
theorem pm_k_sz (S : pm_S) (a i : Nat) (v : Option Nat) (b : Nat) : pm_k (pm_sz S a i v) b = pm_k S b := rfl
theorem pm_n_sz (S : pm_S) (a i : Nat) (v : Option Nat) (b : Nat) : pm_n (pm_sz S a i v) b = pm_n S b := rfl
theorem pm_i_sz (S : pm_S) (a i : Nat) (v : Option Nat) (g b : Nat) : pm_i (pm_sz S a i v) g b = pm_i S g b := rfl
theorem pm_j_sz (S : pm_S) (a i : Nat) (v : Option Nat) (g b : Nat) : pm_j (pm_sz S a i v) g b = pm_j S g b := rfl
theorem pm_p_sz (S : pm_S) (a i : Nat) (v : Option Nat) (g b : Nat) : pm_p (pm_sz S a i v) g b = pm_p S g b := rfl
theorem pm_x_sz (S : pm_S) (a i : Nat) (v : Option Nat) (b e : Nat) : pm_x (pm_sz S a i v) b e = pm_x S b e := rfl
theorem pm_y_sz (S : pm_S) (a i : Nat) (v : Option Nat) (b e : Nat) : pm_y (pm_sz S a i v) b e = pm_y S b e := rfl
theorem pm_z_sz (S : pm_S) (a i : Nat) (v : Option Nat) (b e : Nat) : pm_z (pm_sz S a i v) b e = if b = a ∧ e = i then v else pm_z S b e := rfl
theorem pm_k_sr (S : pm_S) (a : Nat) (r : Nat → Int32) (b : Nat) : pm_k (pm_sr S a r) b = pm_k S b := rfl
theorem pm_n_sr (S : pm_S) (a : Nat) (r : Nat → Int32) (b : Nat) : pm_n (pm_sr S a r) b = pm_n S b := rfl
theorem pm_i_sr (S : pm_S) (a : Nat) (r : Nat → Int32) (g b : Nat) : pm_i (pm_sr S a r) g b = pm_i S g b := rfl
theorem pm_j_sr (S : pm_S) (a : Nat) (r : Nat → Int32) (g b : Nat) : pm_j (pm_sr S a r) g b = pm_j S g b := rfl
theorem pm_p_sr (S : pm_S) (a : Nat) (r : Nat → Int32) (g b : Nat) : pm_p (pm_sr S a r) g b = pm_p S g b := rfl
theorem pm_x_sr (S : pm_S) (a : Nat) (r : Nat → Int32) (b e : Nat) : pm_x (pm_sr S a r) b e = if b = a then r e else pm_x S b e := rfl
theorem pm_y_sr (S : pm_S) (a : Nat) (r : Nat → Int32) (b e : Nat) : pm_y (pm_sr S a r) b e = pm_y S b e := rfl
theorem pm_z_sr (S : pm_S) (a : Nat) (r : Nat → Int32) (b e : Nat) : pm_z (pm_sr S a r) b e = pm_z S b e := rfl
theorem pm_k_nw (S : pm_S) (a k n : Nat) (b : Nat) : pm_k (pm_nw S a k n) b = if b = a then k else pm_k S b := rfl
theorem pm_n_nw (S : pm_S) (a k n : Nat) (b : Nat) : pm_n (pm_nw S a k n) b = if b = a then n else pm_n S b := rfl
theorem pm_i_nw (S : pm_S) (a k n : Nat) (g b : Nat) : pm_i (pm_nw S a k n) g b = if b = a then 0 else pm_i S g b := rfl
theorem pm_j_nw (S : pm_S) (a k n : Nat) (g b : Nat) : pm_j (pm_nw S a k n) g b = if b = a then 0 else pm_j S g b := rfl
theorem pm_p_nw (S : pm_S) (a k n : Nat) (g b : Nat) : pm_p (pm_nw S a k n) g b = if b = a then none else pm_p S g b := rfl
theorem pm_x_nw (S : pm_S) (a k n : Nat) (b e : Nat) : pm_x (pm_nw S a k n) b e = if b = a then 0 else pm_x S b e := rfl
theorem pm_y_nw (S : pm_S) (a k n : Nat) (b e : Nat) : pm_y (pm_nw S a k n) b e = if b = a then 0 else pm_y S b e := rfl
theorem pm_z_nw (S : pm_S) (a k n : Nat) (b e : Nat) : pm_z (pm_nw S a k n) b e = if b = a then none else pm_z S b e := rfl
-- all of them: pm_k_si, pm_n_si, pm_i_si, pm_j_si, pm_p_si, pm_x_si, pm_y_si, pm_z_si, pm_k_sj, pm_n_sj, pm_i_sj, pm_j_sj, pm_p_sj, pm_x_sj, pm_y_sj, pm_z_sj, pm_k_sp, pm_n_sp, pm_i_sp, pm_j_sp, pm_p_sp, pm_x_sp, pm_y_sp, pm_z_sp, pm_k_sx, pm_n_sx, pm_i_sx, pm_j_sx, pm_p_sx, pm_x_sx, pm_y_sx, pm_z_sx, pm_k_sy, pm_n_sy, pm_i_sy, pm_j_sy, pm_p_sy, pm_x_sy, pm_y_sy, pm_z_sy, pm_k_sz, pm_n_sz, pm_i_sz, pm_j_sz, pm_p_sz, pm_x_sz, pm_y_sz, pm_z_sz, pm_k_sr, pm_n_sr, pm_i_sr, pm_j_sr, pm_p_sr, pm_x_sr, pm_y_sr, pm_z_sr, pm_k_nw, pm_n_nw, pm_i_nw, pm_j_nw, pm_p_nw, pm_x_nw, pm_y_nw, pm_z_nw
