/-! the abstract state: az_a: numbers of the whole: 0 processes, 1 deaths, 2 deaths told, 3 turns, 4 slices, 5 words done, 6 time, 7 messages that came, 8 watches made, 9 numbers printed; az_b: of a process, by the number of what and the process (from 0): 0 priority, 1 state, 2 word it is at, 3 where on by mail, 4 where on when late, 5 turn, 6 words done, 7 words to come back to, 8 catches, 9 messages, 10 pointer, 11 whether it traps; az_c: lists of a process: 0 the words to come back to, 1 the words that catch, 2 how many to come back to then; 3 (of process 0) who died, in order; az_e: 0 name of a process, 1 until when it waits, 2 who has a name; az_f: links; az_t: terms as told: 0 register of a process, 1 its reason (place 0), 2 its messages; az_x: 0 the program, four numbers a word; 1 what is kept of what was printed; az_w: the watches that go on: number, who watches, whom -/
def az : Type := (Nat → Nat) × (Nat → Nat → Nat) × (Nat → Nat → Nat → Nat) × (Nat → Nat → Option Nat) × (Nat → Nat → Bool) × (Nat → Nat → Nat → List Int32) × (Nat → Nat → Int32) × (List (Nat × Nat × Nat))
def az_a (Z : az) : Nat → Nat := Z.1
def az_b (Z : az) : Nat → Nat → Nat := Z.2.1
def az_c (Z : az) : Nat → Nat → Nat → Nat := Z.2.2.1
def az_e (Z : az) : Nat → Nat → Option Nat := Z.2.2.2.1
def az_f (Z : az) : Nat → Nat → Bool := Z.2.2.2.2.1
def az_t (Z : az) : Nat → Nat → Nat → List Int32 := Z.2.2.2.2.2.1
def az_x (Z : az) : Nat → Nat → Int32 := Z.2.2.2.2.2.2.1
def az_w (Z : az) : List (Nat × Nat × Nat) := Z.2.2.2.2.2.2.2
def zs_a (Z : az) (i : Nat) (v : Nat) : az := ((fun i' => if i' = i then v else az_a Z i'), az_b Z, az_c Z, az_e Z, az_f Z, az_t Z, az_x Z, az_w Z)
def zs_b (Z : az) (i p : Nat) (v : Nat) : az := (az_a Z, (fun i' p' => if i' = i ∧ p' = p then v else az_b Z i' p'), az_c Z, az_e Z, az_f Z, az_t Z, az_x Z, az_w Z)
def zs_c (Z : az) (i p k : Nat) (v : Nat) : az := (az_a Z, az_b Z, (fun i' p' k' => if i' = i ∧ p' = p ∧ k' = k then v else az_c Z i' p' k'), az_e Z, az_f Z, az_t Z, az_x Z, az_w Z)
def zs_e (Z : az) (i p : Nat) (v : Option Nat) : az := (az_a Z, az_b Z, az_c Z, (fun i' p' => if i' = i ∧ p' = p then v else az_e Z i' p'), az_f Z, az_t Z, az_x Z, az_w Z)
def zs_f (Z : az) (p q : Nat) (v : Bool) : az := (az_a Z, az_b Z, az_c Z, az_e Z, (fun p' q' => if p' = p ∧ q' = q then v else az_f Z p' q'), az_t Z, az_x Z, az_w Z)
def zs_t (Z : az) (i p k : Nat) (v : List Int32) : az := (az_a Z, az_b Z, az_c Z, az_e Z, az_f Z, (fun i' p' k' => if i' = i ∧ p' = p ∧ k' = k then v else az_t Z i' p' k'), az_x Z, az_w Z)
def zs_x (Z : az) (i k : Nat) (v : Int32) : az := (az_a Z, az_b Z, az_c Z, az_e Z, az_f Z, az_t Z, (fun i' k' => if i' = i ∧ k' = k then v else az_x Z i' k'), az_w Z)
def zs_w (Z : az)  (v : List (Nat × Nat × Nat)) : az := (az_a Z, az_b Z, az_c Z, az_e Z, az_f Z, az_t Z, az_x Z, v)
theorem z_a_a (Z : az) (i : Nat) (v : Nat) (i' : Nat) : az_a (zs_a Z i v) i' = if i' = i then v else az_a Z i' := rfl
theorem z_b_a (Z : az) (i : Nat) (v : Nat) (i' p' : Nat) : az_b (zs_a Z i v) i' p' = az_b Z i' p' := rfl
theorem z_c_a (Z : az) (i : Nat) (v : Nat) (i' p' k' : Nat) : az_c (zs_a Z i v) i' p' k' = az_c Z i' p' k' := rfl
theorem z_e_a (Z : az) (i : Nat) (v : Nat) (i' p' : Nat) : az_e (zs_a Z i v) i' p' = az_e Z i' p' := rfl
theorem z_f_a (Z : az) (i : Nat) (v : Nat) (p' q' : Nat) : az_f (zs_a Z i v) p' q' = az_f Z p' q' := rfl
theorem z_t_a (Z : az) (i : Nat) (v : Nat) (i' p' k' : Nat) : az_t (zs_a Z i v) i' p' k' = az_t Z i' p' k' := rfl
theorem z_x_a (Z : az) (i : Nat) (v : Nat) (i' k' : Nat) : az_x (zs_a Z i v) i' k' = az_x Z i' k' := rfl
theorem z_w_a (Z : az) (i : Nat) (v : Nat)  : az_w (zs_a Z i v)  = az_w Z  := rfl
theorem z_a_b (Z : az) (i p : Nat) (v : Nat) (i' : Nat) : az_a (zs_b Z i p v) i' = az_a Z i' := rfl
theorem z_b_b (Z : az) (i p : Nat) (v : Nat) (i' p' : Nat) : az_b (zs_b Z i p v) i' p' = if i' = i ∧ p' = p then v else az_b Z i' p' := rfl
theorem z_c_b (Z : az) (i p : Nat) (v : Nat) (i' p' k' : Nat) : az_c (zs_b Z i p v) i' p' k' = az_c Z i' p' k' := rfl
theorem z_e_b (Z : az) (i p : Nat) (v : Nat) (i' p' : Nat) : az_e (zs_b Z i p v) i' p' = az_e Z i' p' := rfl
theorem z_f_b (Z : az) (i p : Nat) (v : Nat) (p' q' : Nat) : az_f (zs_b Z i p v) p' q' = az_f Z p' q' := rfl
theorem z_t_b (Z : az) (i p : Nat) (v : Nat) (i' p' k' : Nat) : az_t (zs_b Z i p v) i' p' k' = az_t Z i' p' k' := rfl
theorem z_x_b (Z : az) (i p : Nat) (v : Nat) (i' k' : Nat) : az_x (zs_b Z i p v) i' k' = az_x Z i' k' := rfl
theorem z_w_b (Z : az) (i p : Nat) (v : Nat)  : az_w (zs_b Z i p v)  = az_w Z  := rfl
theorem z_a_c (Z : az) (i p k : Nat) (v : Nat) (i' : Nat) : az_a (zs_c Z i p k v) i' = az_a Z i' := rfl
theorem z_b_c (Z : az) (i p k : Nat) (v : Nat) (i' p' : Nat) : az_b (zs_c Z i p k v) i' p' = az_b Z i' p' := rfl
theorem z_c_c (Z : az) (i p k : Nat) (v : Nat) (i' p' k' : Nat) : az_c (zs_c Z i p k v) i' p' k' = if i' = i ∧ p' = p ∧ k' = k then v else az_c Z i' p' k' := rfl
theorem z_e_c (Z : az) (i p k : Nat) (v : Nat) (i' p' : Nat) : az_e (zs_c Z i p k v) i' p' = az_e Z i' p' := rfl
theorem z_f_c (Z : az) (i p k : Nat) (v : Nat) (p' q' : Nat) : az_f (zs_c Z i p k v) p' q' = az_f Z p' q' := rfl
theorem z_t_c (Z : az) (i p k : Nat) (v : Nat) (i' p' k' : Nat) : az_t (zs_c Z i p k v) i' p' k' = az_t Z i' p' k' := rfl
theorem z_x_c (Z : az) (i p k : Nat) (v : Nat) (i' k' : Nat) : az_x (zs_c Z i p k v) i' k' = az_x Z i' k' := rfl
theorem z_w_c (Z : az) (i p k : Nat) (v : Nat)  : az_w (zs_c Z i p k v)  = az_w Z  := rfl
theorem z_a_e (Z : az) (i p : Nat) (v : Option Nat) (i' : Nat) : az_a (zs_e Z i p v) i' = az_a Z i' := rfl
theorem z_b_e (Z : az) (i p : Nat) (v : Option Nat) (i' p' : Nat) : az_b (zs_e Z i p v) i' p' = az_b Z i' p' := rfl
theorem z_c_e (Z : az) (i p : Nat) (v : Option Nat) (i' p' k' : Nat) : az_c (zs_e Z i p v) i' p' k' = az_c Z i' p' k' := rfl
theorem z_e_e (Z : az) (i p : Nat) (v : Option Nat) (i' p' : Nat) : az_e (zs_e Z i p v) i' p' = if i' = i ∧ p' = p then v else az_e Z i' p' := rfl
theorem z_f_e (Z : az) (i p : Nat) (v : Option Nat) (p' q' : Nat) : az_f (zs_e Z i p v) p' q' = az_f Z p' q' := rfl
theorem z_t_e (Z : az) (i p : Nat) (v : Option Nat) (i' p' k' : Nat) : az_t (zs_e Z i p v) i' p' k' = az_t Z i' p' k' := rfl
theorem z_x_e (Z : az) (i p : Nat) (v : Option Nat) (i' k' : Nat) : az_x (zs_e Z i p v) i' k' = az_x Z i' k' := rfl
theorem z_w_e (Z : az) (i p : Nat) (v : Option Nat)  : az_w (zs_e Z i p v)  = az_w Z  := rfl
theorem z_a_f (Z : az) (p q : Nat) (v : Bool) (i' : Nat) : az_a (zs_f Z p q v) i' = az_a Z i' := rfl
theorem z_b_f (Z : az) (p q : Nat) (v : Bool) (i' p' : Nat) : az_b (zs_f Z p q v) i' p' = az_b Z i' p' := rfl
theorem z_c_f (Z : az) (p q : Nat) (v : Bool) (i' p' k' : Nat) : az_c (zs_f Z p q v) i' p' k' = az_c Z i' p' k' := rfl
theorem z_e_f (Z : az) (p q : Nat) (v : Bool) (i' p' : Nat) : az_e (zs_f Z p q v) i' p' = az_e Z i' p' := rfl
theorem z_f_f (Z : az) (p q : Nat) (v : Bool) (p' q' : Nat) : az_f (zs_f Z p q v) p' q' = if p' = p ∧ q' = q then v else az_f Z p' q' := rfl
theorem z_t_f (Z : az) (p q : Nat) (v : Bool) (i' p' k' : Nat) : az_t (zs_f Z p q v) i' p' k' = az_t Z i' p' k' := rfl
theorem z_x_f (Z : az) (p q : Nat) (v : Bool) (i' k' : Nat) : az_x (zs_f Z p q v) i' k' = az_x Z i' k' := rfl
theorem z_w_f (Z : az) (p q : Nat) (v : Bool)  : az_w (zs_f Z p q v)  = az_w Z  := rfl
theorem z_a_t (Z : az) (i p k : Nat) (v : List Int32) (i' : Nat) : az_a (zs_t Z i p k v) i' = az_a Z i' := rfl
theorem z_b_t (Z : az) (i p k : Nat) (v : List Int32) (i' p' : Nat) : az_b (zs_t Z i p k v) i' p' = az_b Z i' p' := rfl
theorem z_c_t (Z : az) (i p k : Nat) (v : List Int32) (i' p' k' : Nat) : az_c (zs_t Z i p k v) i' p' k' = az_c Z i' p' k' := rfl
theorem z_e_t (Z : az) (i p k : Nat) (v : List Int32) (i' p' : Nat) : az_e (zs_t Z i p k v) i' p' = az_e Z i' p' := rfl
theorem z_f_t (Z : az) (i p k : Nat) (v : List Int32) (p' q' : Nat) : az_f (zs_t Z i p k v) p' q' = az_f Z p' q' := rfl
theorem z_t_t (Z : az) (i p k : Nat) (v : List Int32) (i' p' k' : Nat) : az_t (zs_t Z i p k v) i' p' k' = if i' = i ∧ p' = p ∧ k' = k then v else az_t Z i' p' k' := rfl
theorem z_x_t (Z : az) (i p k : Nat) (v : List Int32) (i' k' : Nat) : az_x (zs_t Z i p k v) i' k' = az_x Z i' k' := rfl
theorem z_w_t (Z : az) (i p k : Nat) (v : List Int32)  : az_w (zs_t Z i p k v)  = az_w Z  := rfl
theorem z_a_x (Z : az) (i k : Nat) (v : Int32) (i' : Nat) : az_a (zs_x Z i k v) i' = az_a Z i' := rfl
theorem z_b_x (Z : az) (i k : Nat) (v : Int32) (i' p' : Nat) : az_b (zs_x Z i k v) i' p' = az_b Z i' p' := rfl
theorem z_c_x (Z : az) (i k : Nat) (v : Int32) (i' p' k' : Nat) : az_c (zs_x Z i k v) i' p' k' = az_c Z i' p' k' := rfl
theorem z_e_x (Z : az) (i k : Nat) (v : Int32) (i' p' : Nat) : az_e (zs_x Z i k v) i' p' = az_e Z i' p' := rfl
theorem z_f_x (Z : az) (i k : Nat) (v : Int32) (p' q' : Nat) : az_f (zs_x Z i k v) p' q' = az_f Z p' q' := rfl
theorem z_t_x (Z : az) (i k : Nat) (v : Int32) (i' p' k' : Nat) : az_t (zs_x Z i k v) i' p' k' = az_t Z i' p' k' := rfl
theorem z_x_x (Z : az) (i k : Nat) (v : Int32) (i' k' : Nat) : az_x (zs_x Z i k v) i' k' = if i' = i ∧ k' = k then v else az_x Z i' k' := rfl
theorem z_w_x (Z : az) (i k : Nat) (v : Int32)  : az_w (zs_x Z i k v)  = az_w Z  := rfl
theorem z_a_w (Z : az)  (v : List (Nat × Nat × Nat)) (i' : Nat) : az_a (zs_w Z  v) i' = az_a Z i' := rfl
theorem z_b_w (Z : az)  (v : List (Nat × Nat × Nat)) (i' p' : Nat) : az_b (zs_w Z  v) i' p' = az_b Z i' p' := rfl
theorem z_c_w (Z : az)  (v : List (Nat × Nat × Nat)) (i' p' k' : Nat) : az_c (zs_w Z  v) i' p' k' = az_c Z i' p' k' := rfl
theorem z_e_w (Z : az)  (v : List (Nat × Nat × Nat)) (i' p' : Nat) : az_e (zs_w Z  v) i' p' = az_e Z i' p' := rfl
theorem z_f_w (Z : az)  (v : List (Nat × Nat × Nat)) (p' q' : Nat) : az_f (zs_w Z  v) p' q' = az_f Z p' q' := rfl
theorem z_t_w (Z : az)  (v : List (Nat × Nat × Nat)) (i' p' k' : Nat) : az_t (zs_w Z  v) i' p' k' = az_t Z i' p' k' := rfl
theorem z_x_w (Z : az)  (v : List (Nat × Nat × Nat)) (i' k' : Nat) : az_x (zs_w Z  v) i' k' = az_x Z i' k' := rfl
theorem z_w_w (Z : az)  (v : List (Nat × Nat × Nat))  : az_w (zs_w Z  v)  = v := rfl
def zs_m (Z : az) (p : Nat) (g : Nat → List Int32) : az := (az_a Z, az_b Z, az_c Z, az_e Z, az_f Z, (fun i' p' k' => if i' = 2 ∧ p' = p then g k' else az_t Z i' p' k'), az_x Z, az_w Z)
theorem z_a_m (Z : az) (p : Nat) (g : Nat → List Int32) (i' : Nat) : az_a (zs_m Z p g) i' = az_a Z i' := rfl
theorem z_b_m (Z : az) (p : Nat) (g : Nat → List Int32) (i' p' : Nat) : az_b (zs_m Z p g) i' p' = az_b Z i' p' := rfl
theorem z_c_m (Z : az) (p : Nat) (g : Nat → List Int32) (i' p' k' : Nat) : az_c (zs_m Z p g) i' p' k' = az_c Z i' p' k' := rfl
theorem z_e_m (Z : az) (p : Nat) (g : Nat → List Int32) (i' p' : Nat) : az_e (zs_m Z p g) i' p' = az_e Z i' p' := rfl
theorem z_f_m (Z : az) (p : Nat) (g : Nat → List Int32) (p' q' : Nat) : az_f (zs_m Z p g) p' q' = az_f Z p' q' := rfl
theorem z_t_m (Z : az) (p : Nat) (g : Nat → List Int32) (i' p' k' : Nat) : az_t (zs_m Z p g) i' p' k' = if i' = 2 ∧ p' = p then g k' else az_t Z i' p' k' := rfl
theorem z_x_m (Z : az) (p : Nat) (g : Nat → List Int32) (i' k' : Nat) : az_x (zs_m Z p g) i' k' = az_x Z i' k' := rfl
theorem z_w_m (Z : az) (p : Nat) (g : Nat → List Int32)  : az_w (zs_m Z p g)  = az_w Z  := rfl
-- all: z_a_a, z_b_a, z_c_a, z_e_a, z_f_a, z_t_a, z_x_a, z_w_a, z_a_b, z_b_b, z_c_b, z_e_b, z_f_b, z_t_b, z_x_b, z_w_b, z_a_c, z_b_c, z_c_c, z_e_c, z_f_c, z_t_c, z_x_c, z_w_c, z_a_e, z_b_e, z_c_e, z_e_e, z_f_e, z_t_e, z_x_e, z_w_e, z_a_f, z_b_f, z_c_f, z_e_f, z_f_f, z_t_f, z_x_f, z_w_f, z_a_t, z_b_t, z_c_t, z_e_t, z_f_t, z_t_t, z_x_t, z_w_t, z_a_x, z_b_x, z_c_x, z_e_x, z_f_x, z_t_x, z_x_x, z_w_x, z_a_w, z_b_w, z_c_w, z_e_w, z_f_w, z_t_w, z_x_w, z_w_w, z_a_m, z_b_m, z_c_m, z_e_m, z_f_m, z_t_m, z_x_m, z_w_m
