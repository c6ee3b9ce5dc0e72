-- THE MEMORY AS WHOLE NUMBERS: cells of ints, read and written by an Int; the operations of the machine over them
abbrev zi_M : Type := Nat → Int → Int
/-- in the range of an int -/
abbrev zi_r (x : Int) : Prop := -2147483648 ≤ x ∧ x ≤ 2147483647
noncomputable def zi_u (g : zi_M) (a : Nat) (i v : Int) : zi_M := fun a' i' => if a' = a ∧ i' = i then v else g a' i'
noncomputable def zi_cp (g : zi_M) (s : Nat) (sp : Int) (t : Nat) (dp n : Int) : zi_M := fun a i => if a = t ∧ dp ≤ i ∧ i < dp + n then g s (sp + (i - dp)) else g a i
noncomputable def zi_fl (g : zi_M) (a : Nat) (n v : Int) : zi_M := fun a' i => if a' = a ∧ 0 ≤ i ∧ i < n then v else g a' i
noncomputable def zi_w (x : Int) : Int := (Int32.ofInt x).toInt
noncomputable def zi_and (a b : Int) : Int := (Int32.ofInt a &&& Int32.ofInt b).toInt
noncomputable def zi_or (a b : Int) : Int := (Int32.ofInt a ||| Int32.ofInt b).toInt
noncomputable def zi_xor (a b : Int) : Int := (Int32.ofInt a ^^^ Int32.ofInt b).toInt
noncomputable def zi_shl (a b : Int) : Int := (Int32.ofInt a <<< (Int32.ofInt b &&& 31)).toInt
noncomputable def zi_shr (a b : Int) : Int := (Int32.ofInt a >>> (Int32.ofInt b &&& 31)).toInt
noncomputable def zi_ush (a b : Int) : Int := ((Int32.ofInt a).toUInt32 >>> (Int32.ofInt b &&& 31).toUInt32).toInt32.toInt
theorem zi_r32 (x : Int32) : zi_r x.toInt := by
  have h1 := Int32.le_toInt x
  have h2 := Int32.toInt_lt x
  constructor <;> omega
theorem zi_r_w (a : Int) : zi_r (zi_w a) := zi_r32 _
theorem zi_r_and (a b : Int) : zi_r (zi_and a b) := zi_r32 _
theorem zi_r_or (a b : Int) : zi_r (zi_or a b) := zi_r32 _
theorem zi_r_xor (a b : Int) : zi_r (zi_xor a b) := zi_r32 _
theorem zi_r_shl (a b : Int) : zi_r (zi_shl a b) := zi_r32 _
theorem zi_r_shr (a b : Int) : zi_r (zi_shr a b) := zi_r32 _
theorem zi_r_ush (a b : Int) : zi_r (zi_ush a b) := zi_r32 _
theorem zi_r_bit {v : Int} (h : v = 0 ∨ v = 1) : zi_r v := by rcases h with h | h <;> subst h <;> decide
theorem zi_bmod {x : Int} (h : zi_r x) : x.bmod (2 ^ 32) = x := by
  rw [Int.bmod_def]
  omega
theorem zi_to {v : Int} (h : zi_r v) : (Int32.ofInt v).toInt = v := by rw [Int32.toInt_ofInt]; exact zi_bmod h
theorem zi_w_id {v : Int} (h : zi_r v) : zi_w v = v := zi_to h
theorem zi_of_w (v : Int) : Int32.ofInt (zi_w v) = Int32.ofInt v := Int32.ofInt_toInt _
theorem zi_u_eq {g : zi_M} {a : Nat} {i v : Int} : zi_u g a i v a i = v := by unfold zi_u; rw [if_pos ⟨rfl, rfl⟩]
theorem zi_u_ne {g : zi_M} {a b : Nat} {i k v : Int} (h : b ≠ a) : zi_u g a i v b k = g b k := by unfold zi_u; rw [if_neg (fun q => h q.1)]
theorem zi_u_ni {g : zi_M} {a b : Nat} {i k v : Int} (h : k ≠ i) : zi_u g a i v b k = g b k := by unfold zi_u; rw [if_neg (fun q => h q.2)]
