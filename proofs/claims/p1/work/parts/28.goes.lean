-- goes: a loop of days in thought, of the class and of the reference
theorem a0_bs6 {E : sx_E} (hL : sx_Ln E = 6) {ds : ax_dsg} (hd : (ds.all fun q => Nat.ble 6 q.1) = true) : ax_bst (a0_B E) ds := by
  intro ρ ρ' h hB k hk
  rw [h k fun q hq e => ?_]
  · exact hB k hk
  · have := Nat.le_of_ble_eq_true (List.all_eq_true.mp hd q hq)
    omega
def g0_M_g214 : Nat → ax_V := fun k => (bif Nat.ble 34 k then (bif Nat.beq k 34 then .inl (.int (-1)) else .inl (.int 0)) else (bif Nat.beq k 5 then .inl (.int 1) else .inl (.int 0)))
def g0_M_g215 : Nat → ax_V := fun k => (bif Nat.beq k 0 then .inr (some (6, 0)) else .inl (.int 0))
def g0_M_sh (i : Nat) : Option (Nat × Nat) := bif (bif Nat.ble 215 i then (bif Nat.ble 217 i then (bif Nat.beq i 217 then true else false) else (bif Nat.beq i 215 then true else false)) else (bif Nat.beq i 214 then true else false)) then a0_sh i else none
def g0_M_f (i : Nat) : Nat × (Nat → ax_V) := (bif Nat.ble 215 i then (bif Nat.beq i 215 then (0, g0_M_g215) else a0_f i) else (bif Nat.beq i 214 then (0, g0_M_g214) else a0_f i))
def g0_M : ax_C := ((419, 0, 0, 271, 46, [some (.inl (.ref 214)), some (.inr (some (1, 0))), some (.inr (some (2, 0))), some (.inr (some (6, 0))), none], []), [(420, 599749, 7282378, 326, 710, [some (.inl (.ref 1000000000)), some (.inl (.ref 0)), some (.inl (.ref 214)), some (.inl (.int 0))], [.inl (.int 0)])], (251, g0_M_sh, g0_M_f, a0_r), [((-2147483648), 2147483647), (1, 60), (0, 0), ((-2147483648), 2147483647), ((-2147483648), 2147483647), ((-2147483648), 2147483647), (0, 60)])
theorem g0_M_lt : ∀ i kd, g0_M_sh i = some kd → i < 251 := fun i kd h => by
  unfold g0_M_sh at h
  generalize (bif Nat.ble 215 i then (bif Nat.ble 217 i then (bif Nat.beq i 217 then true else false) else (bif Nat.beq i 215 then true else false)) else (bif Nat.beq i 214 then true else false)) = b at h
  cases b with
  | false => cases h
  | true => exact a0_lt i kd h
def g0_C_g165 : Nat → ax_V := fun k => (bif Nat.ble 17 k then (bif Nat.beq k 17 then .inr (some (6, 0)) else .inl (.int 0)) else (bif Nat.beq k 0 then .inl (.int 1) else .inl (.int 0)))
def g0_C_sh (i : Nat) : Option (Nat × Nat) := bif (bif Nat.ble 177 i then (bif Nat.ble 215 i then (bif Nat.ble 217 i then (bif Nat.beq i 217 then true else false) else (bif Nat.beq i 215 then true else false)) else (bif Nat.ble 214 i then (bif Nat.beq i 214 then true else false) else (bif Nat.beq i 177 then true else false))) else (bif Nat.ble 19 i then (bif Nat.ble 165 i then (bif Nat.beq i 165 then true else false) else (bif Nat.beq i 19 then true else false)) else (bif Nat.ble 1 i then (bif Nat.beq i 1 then true else false) else (bif Nat.beq i 0 then true else false)))) then a0_sh i else none
def g0_C_f (i : Nat) : Nat × (Nat → ax_V) := (bif Nat.beq i 165 then (0, g0_C_g165) else a0_f i)
def g0_C : ax_C := ((419, 0, 0, 120, 73, [some (.inl (.ref 0)), some (.inr (some (1, 0))), some (.inr (some (2, 0))), some (.inl (.int 1)), some (.inl (.int 0)), some (.inr (some (6, 0)))], []), [(420, 599749, 7282378, 326, 696, [some (.inl (.ref 1000000000)), some (.inl (.ref 0)), some (.inl (.ref 214)), some (.inl (.int 0))], [])], (251, g0_C_sh, g0_C_f, a0_r), [((-2147483648), 2147483647), (1, 60), (0, 0), ((-2147483648), 2147483647), ((-2147483648), 2147483647), ((-2147483648), 2147483647), (0, 60)])
theorem g0_C_lt : ∀ i kd, g0_C_sh i = some kd → i < 251 := fun i kd h => by
  unfold g0_C_sh at h
  generalize (bif Nat.ble 177 i then (bif Nat.ble 215 i then (bif Nat.ble 217 i then (bif Nat.beq i 217 then true else false) else (bif Nat.beq i 215 then true else false)) else (bif Nat.ble 214 i then (bif Nat.beq i 214 then true else false) else (bif Nat.beq i 177 then true else false))) else (bif Nat.ble 19 i then (bif Nat.ble 165 i then (bif Nat.beq i 165 then true else false) else (bif Nat.beq i 19 then true else false)) else (bif Nat.ble 1 i then (bif Nat.beq i 1 then true else false) else (bif Nat.beq i 0 then true else false)))) = b at h
  cases b with
  | false => cases h
  | true => exact a0_lt i kd h
theorem g0_Mr : ax_head (a0_X 6 fun _ _ _ _ => none) (fun c => (fun _ => false) c || ax_bk [(6, .inl 3)] 6 g0_M c) 3728 g0_M = true := by decide +kernel
theorem g0_MG {E : sx_E} (hL : sx_Ln E = 6) : ax_G E (a0_B E) a0_Q g0_M := ax_loop (a0_XO hL) a0_nost g0_M_lt (a0_bs6 hL rfl) rfl g0_Mr
theorem g0_Cr : ax_head (a0_X 6 fun _ _ _ _ => none) (fun c => ax_cut [(6, .inl 3)] g0_M c || ax_bk [(6, .inl 5)] 6 g0_C c) 3759 g0_C = true := by decide +kernel
theorem g0_CG {E : sx_E} (hL : sx_Ln E = 6) : ax_G E (a0_B E) a0_Q g0_C := ax_loop (a0_XO hL) (fun c hc => ax_cut_ok g0_M_lt (a0_bs6 hL rfl) (g0_MG hL) hc) g0_C_lt (a0_bs6 hL rfl) rfl g0_Cr
def g1_M_g214 : Nat → ax_V := fun k => (bif Nat.ble 34 k then (bif Nat.beq k 34 then .inl (.int (-1)) else .inl (.int 0)) else (bif Nat.beq k 5 then .inl (.int 1) else .inl (.int 0)))
def g1_M_g215 : Nat → ax_V := fun k => (bif Nat.beq k 0 then .inr (some (6, 0)) else .inl (.int 0))
def g1_M_sh (i : Nat) : Option (Nat × Nat) := bif (bif Nat.ble 215 i then (bif Nat.ble 217 i then (bif Nat.beq i 217 then true else false) else (bif Nat.beq i 215 then true else false)) else (bif Nat.beq i 214 then true else false)) then a0_sh i else none
def g1_M_f (i : Nat) : Nat × (Nat → ax_V) := (bif Nat.ble 215 i then (bif Nat.beq i 215 then (0, g1_M_g215) else a0_f i) else (bif Nat.beq i 214 then (0, g1_M_g214) else a0_f i))
def g1_M : ax_C := ((419, 0, 0, 271, 46, [some (.inl (.ref 214)), some (.inr (some (1, 0))), some (.inr (some (2, 0))), some (.inr (some (6, 0))), none], []), [(420, 599749, 7282378, 326, 710, [some (.inl (.ref 1000000000)), some (.inl (.ref 0)), some (.inl (.ref 214)), some (.inl (.int 0))], [.inl (.int 0)])], (251, g1_M_sh, g1_M_f, a0_r), [((-2147483648), 2147483647), (1, 60), (1, 1), ((-2147483648), 2147483647), ((-2147483648), 2147483647), ((-2147483648), 2147483647), (0, 60)])
theorem g1_M_lt : ∀ i kd, g1_M_sh i = some kd → i < 251 := fun i kd h => by
  unfold g1_M_sh at h
  generalize (bif Nat.ble 215 i then (bif Nat.ble 217 i then (bif Nat.beq i 217 then true else false) else (bif Nat.beq i 215 then true else false)) else (bif Nat.beq i 214 then true else false)) = b at h
  cases b with
  | false => cases h
  | true => exact a0_lt i kd h
def g1_C_g165 : Nat → ax_V := fun k => (bif Nat.ble 17 k then (bif Nat.beq k 17 then .inr (some (6, 0)) else .inl (.int 0)) else (bif Nat.beq k 0 then .inl (.int 1) else .inl (.int 0)))
def g1_C_sh (i : Nat) : Option (Nat × Nat) := bif (bif Nat.ble 177 i then (bif Nat.ble 215 i then (bif Nat.ble 217 i then (bif Nat.beq i 217 then true else false) else (bif Nat.beq i 215 then true else false)) else (bif Nat.ble 214 i then (bif Nat.beq i 214 then true else false) else (bif Nat.beq i 177 then true else false))) else (bif Nat.ble 19 i then (bif Nat.ble 165 i then (bif Nat.beq i 165 then true else false) else (bif Nat.beq i 19 then true else false)) else (bif Nat.ble 1 i then (bif Nat.beq i 1 then true else false) else (bif Nat.beq i 0 then true else false)))) then a0_sh i else none
def g1_C_f (i : Nat) : Nat × (Nat → ax_V) := (bif Nat.beq i 165 then (0, g1_C_g165) else a0_f i)
def g1_C : ax_C := ((419, 0, 0, 120, 73, [some (.inl (.ref 0)), some (.inr (some (1, 0))), some (.inr (some (2, 0))), some (.inl (.int 1)), some (.inl (.int 0)), some (.inr (some (6, 0)))], []), [(420, 599749, 7282378, 326, 696, [some (.inl (.ref 1000000000)), some (.inl (.ref 0)), some (.inl (.ref 214)), some (.inl (.int 0))], [])], (251, g1_C_sh, g1_C_f, a0_r), [((-2147483648), 2147483647), (1, 60), (1, 1), ((-2147483648), 2147483647), ((-2147483648), 2147483647), ((-2147483648), 2147483647), (0, 60)])
theorem g1_C_lt : ∀ i kd, g1_C_sh i = some kd → i < 251 := fun i kd h => by
  unfold g1_C_sh at h
  generalize (bif Nat.ble 177 i then (bif Nat.ble 215 i then (bif Nat.ble 217 i then (bif Nat.beq i 217 then true else false) else (bif Nat.beq i 215 then true else false)) else (bif Nat.ble 214 i then (bif Nat.beq i 214 then true else false) else (bif Nat.beq i 177 then true else false))) else (bif Nat.ble 19 i then (bif Nat.ble 165 i then (bif Nat.beq i 165 then true else false) else (bif Nat.beq i 19 then true else false)) else (bif Nat.ble 1 i then (bif Nat.beq i 1 then true else false) else (bif Nat.beq i 0 then true else false)))) = b at h
  cases b with
  | false => cases h
  | true => exact a0_lt i kd h
theorem g1_Mr : ax_head (a0_X 6 fun _ _ _ _ => none) (fun c => (fun _ => false) c || ax_bk [(6, .inl 3)] 6 g1_M c) 3731 g1_M = true := by decide +kernel
theorem g1_MG {E : sx_E} (hL : sx_Ln E = 6) : ax_G E (a0_B E) a0_Q g1_M := ax_loop (a0_XO hL) a0_nost g1_M_lt (a0_bs6 hL rfl) rfl g1_Mr
theorem g1_Cr : ax_head (a0_X 6 fun _ _ _ _ => none) (fun c => ax_cut [(6, .inl 3)] g1_M c || ax_bk [(6, .inl 5)] 6 g1_C c) 3759 g1_C = true := by decide +kernel
theorem g1_CG {E : sx_E} (hL : sx_Ln E = 6) : ax_G E (a0_B E) a0_Q g1_C := ax_loop (a0_XO hL) (fun c hc => ax_cut_ok g1_M_lt (a0_bs6 hL rfl) (g1_MG hL) hc) g1_C_lt (a0_bs6 hL rfl) rfl g1_Cr
def g2_M_g214 : Nat → ax_V := fun k => (bif Nat.ble 34 k then (bif Nat.beq k 34 then .inl (.int (-1)) else .inl (.int 0)) else (bif Nat.beq k 5 then .inl (.int 1) else .inl (.int 0)))
def g2_M_g215 : Nat → ax_V := fun k => (bif Nat.beq k 0 then .inr (some (6, 0)) else .inl (.int 0))
def g2_M_sh (i : Nat) : Option (Nat × Nat) := bif (bif Nat.ble 215 i then (bif Nat.ble 217 i then (bif Nat.beq i 217 then true else false) else (bif Nat.beq i 215 then true else false)) else (bif Nat.beq i 214 then true else false)) then a0_sh i else none
def g2_M_f (i : Nat) : Nat × (Nat → ax_V) := (bif Nat.ble 215 i then (bif Nat.beq i 215 then (0, g2_M_g215) else a0_f i) else (bif Nat.beq i 214 then (0, g2_M_g214) else a0_f i))
def g2_M : ax_C := ((419, 0, 0, 271, 46, [some (.inl (.ref 214)), some (.inr (some (1, 0))), some (.inr (some (2, 0))), some (.inr (some (6, 0))), none], []), [(420, 599749, 7282378, 326, 710, [some (.inl (.ref 1000000000)), some (.inl (.ref 0)), some (.inl (.ref 214)), some (.inl (.int 0))], [.inl (.int 0)])], (251, g2_M_sh, g2_M_f, a0_r), [((-2147483648), 2147483647), (1, 60), (2, 2), ((-2147483648), 2147483647), ((-2147483648), 2147483647), ((-2147483648), 2147483647), (0, 60)])
theorem g2_M_lt : ∀ i kd, g2_M_sh i = some kd → i < 251 := fun i kd h => by
  unfold g2_M_sh at h
  generalize (bif Nat.ble 215 i then (bif Nat.ble 217 i then (bif Nat.beq i 217 then true else false) else (bif Nat.beq i 215 then true else false)) else (bif Nat.beq i 214 then true else false)) = b at h
  cases b with
  | false => cases h
  | true => exact a0_lt i kd h
def g2_C_g165 : Nat → ax_V := fun k => (bif Nat.ble 17 k then (bif Nat.beq k 17 then .inr (some (6, 0)) else .inl (.int 0)) else (bif Nat.beq k 0 then .inl (.int 1) else .inl (.int 0)))
def g2_C_sh (i : Nat) : Option (Nat × Nat) := bif (bif Nat.ble 177 i then (bif Nat.ble 215 i then (bif Nat.ble 217 i then (bif Nat.beq i 217 then true else false) else (bif Nat.beq i 215 then true else false)) else (bif Nat.ble 214 i then (bif Nat.beq i 214 then true else false) else (bif Nat.beq i 177 then true else false))) else (bif Nat.ble 19 i then (bif Nat.ble 165 i then (bif Nat.beq i 165 then true else false) else (bif Nat.beq i 19 then true else false)) else (bif Nat.ble 1 i then (bif Nat.beq i 1 then true else false) else (bif Nat.beq i 0 then true else false)))) then a0_sh i else none
def g2_C_f (i : Nat) : Nat × (Nat → ax_V) := (bif Nat.beq i 165 then (0, g2_C_g165) else a0_f i)
def g2_C : ax_C := ((419, 0, 0, 120, 73, [some (.inl (.ref 0)), some (.inr (some (1, 0))), some (.inr (some (2, 0))), some (.inl (.int 1)), some (.inl (.int 0)), some (.inr (some (6, 0)))], []), [(420, 599749, 7282378, 326, 696, [some (.inl (.ref 1000000000)), some (.inl (.ref 0)), some (.inl (.ref 214)), some (.inl (.int 0))], [])], (251, g2_C_sh, g2_C_f, a0_r), [((-2147483648), 2147483647), (1, 60), (2, 2), ((-2147483648), 2147483647), ((-2147483648), 2147483647), ((-2147483648), 2147483647), (0, 60)])
theorem g2_C_lt : ∀ i kd, g2_C_sh i = some kd → i < 251 := fun i kd h => by
  unfold g2_C_sh at h
  generalize (bif Nat.ble 177 i then (bif Nat.ble 215 i then (bif Nat.ble 217 i then (bif Nat.beq i 217 then true else false) else (bif Nat.beq i 215 then true else false)) else (bif Nat.ble 214 i then (bif Nat.beq i 214 then true else false) else (bif Nat.beq i 177 then true else false))) else (bif Nat.ble 19 i then (bif Nat.ble 165 i then (bif Nat.beq i 165 then true else false) else (bif Nat.beq i 19 then true else false)) else (bif Nat.ble 1 i then (bif Nat.beq i 1 then true else false) else (bif Nat.beq i 0 then true else false)))) = b at h
  cases b with
  | false => cases h
  | true => exact a0_lt i kd h
theorem g2_Mr : ax_head (a0_X 6 fun _ _ _ _ => none) (fun c => (fun _ => false) c || ax_bk [(6, .inl 3)] 6 g2_M c) 3731 g2_M = true := by decide +kernel
theorem g2_MG {E : sx_E} (hL : sx_Ln E = 6) : ax_G E (a0_B E) a0_Q g2_M := ax_loop (a0_XO hL) a0_nost g2_M_lt (a0_bs6 hL rfl) rfl g2_Mr
theorem g2_Cr : ax_head (a0_X 6 fun _ _ _ _ => none) (fun c => ax_cut [(6, .inl 3)] g2_M c || ax_bk [(6, .inl 5)] 6 g2_C c) 3769 g2_C = true := by decide +kernel
theorem g2_CG {E : sx_E} (hL : sx_Ln E = 6) : ax_G E (a0_B E) a0_Q g2_C := ax_loop (a0_XO hL) (fun c hc => ax_cut_ok g2_M_lt (a0_bs6 hL rfl) (g2_MG hL) hc) g2_C_lt (a0_bs6 hL rfl) rfl g2_Cr
def g3_M_g214 : Nat → ax_V := fun k => (bif Nat.ble 34 k then (bif Nat.beq k 34 then .inl (.int (-1)) else .inl (.int 0)) else (bif Nat.beq k 5 then .inl (.int 1) else .inl (.int 0)))
def g3_M_g215 : Nat → ax_V := fun k => (bif Nat.beq k 0 then .inr (some (6, 0)) else .inl (.int 0))
def g3_M_sh (i : Nat) : Option (Nat × Nat) := bif (bif Nat.ble 215 i then (bif Nat.ble 217 i then (bif Nat.beq i 217 then true else false) else (bif Nat.beq i 215 then true else false)) else (bif Nat.beq i 214 then true else false)) then a0_sh i else none
def g3_M_f (i : Nat) : Nat × (Nat → ax_V) := (bif Nat.ble 215 i then (bif Nat.beq i 215 then (0, g3_M_g215) else a0_f i) else (bif Nat.beq i 214 then (0, g3_M_g214) else a0_f i))
def g3_M : ax_C := ((419, 0, 0, 271, 46, [some (.inl (.ref 214)), some (.inr (some (1, 0))), some (.inr (some (2, 0))), some (.inr (some (6, 0))), none], []), [(420, 599749, 7282378, 326, 710, [some (.inl (.ref 1000000000)), some (.inl (.ref 0)), some (.inl (.ref 214)), some (.inl (.int 0))], [.inl (.int 0)])], (251, g3_M_sh, g3_M_f, a0_r), [((-2147483648), 2147483647), (1, 60), (10, 15), ((-2147483648), 2147483647), ((-2147483648), 2147483647), ((-2147483648), 2147483647), (0, 60)])
theorem g3_M_lt : ∀ i kd, g3_M_sh i = some kd → i < 251 := fun i kd h => by
  unfold g3_M_sh at h
  generalize (bif Nat.ble 215 i then (bif Nat.ble 217 i then (bif Nat.beq i 217 then true else false) else (bif Nat.beq i 215 then true else false)) else (bif Nat.beq i 214 then true else false)) = b at h
  cases b with
  | false => cases h
  | true => exact a0_lt i kd h
def g3_C_g165 : Nat → ax_V := fun k => (bif Nat.ble 17 k then (bif Nat.beq k 17 then .inr (some (6, 0)) else .inl (.int 0)) else (bif Nat.beq k 0 then .inl (.int 1) else .inl (.int 0)))
def g3_C_sh (i : Nat) : Option (Nat × Nat) := bif (bif Nat.ble 176 i then (bif Nat.ble 214 i then (bif Nat.ble 215 i then (bif Nat.ble 217 i then (bif Nat.beq i 217 then true else false) else (bif Nat.beq i 215 then true else false)) else (bif Nat.beq i 214 then true else false)) else (bif Nat.ble 177 i then (bif Nat.beq i 177 then true else false) else (bif Nat.beq i 176 then true else false))) else (bif Nat.ble 19 i then (bif Nat.ble 165 i then (bif Nat.beq i 165 then true else false) else (bif Nat.beq i 19 then true else false)) else (bif Nat.ble 1 i then (bif Nat.beq i 1 then true else false) else (bif Nat.beq i 0 then true else false)))) then a0_sh i else none
def g3_C_f (i : Nat) : Nat × (Nat → ax_V) := (bif Nat.beq i 165 then (0, g3_C_g165) else a0_f i)
def g3_C : ax_C := ((419, 0, 0, 120, 73, [some (.inl (.ref 0)), some (.inr (some (1, 0))), some (.inr (some (2, 0))), some (.inl (.int 0)), some (.inl (.int 1)), some (.inr (some (6, 0)))], []), [(420, 599749, 7282378, 326, 696, [some (.inl (.ref 1000000000)), some (.inl (.ref 0)), some (.inl (.ref 214)), some (.inl (.int 0))], [])], (251, g3_C_sh, g3_C_f, a0_r), [((-2147483648), 2147483647), (1, 60), (10, 15), ((-2147483648), 2147483647), ((-2147483648), 2147483647), ((-2147483648), 2147483647), (0, 60)])
theorem g3_C_lt : ∀ i kd, g3_C_sh i = some kd → i < 251 := fun i kd h => by
  unfold g3_C_sh at h
  generalize (bif Nat.ble 176 i then (bif Nat.ble 214 i then (bif Nat.ble 215 i then (bif Nat.ble 217 i then (bif Nat.beq i 217 then true else false) else (bif Nat.beq i 215 then true else false)) else (bif Nat.beq i 214 then true else false)) else (bif Nat.ble 177 i then (bif Nat.beq i 177 then true else false) else (bif Nat.beq i 176 then true else false))) else (bif Nat.ble 19 i then (bif Nat.ble 165 i then (bif Nat.beq i 165 then true else false) else (bif Nat.beq i 19 then true else false)) else (bif Nat.ble 1 i then (bif Nat.beq i 1 then true else false) else (bif Nat.beq i 0 then true else false)))) = b at h
  cases b with
  | false => cases h
  | true => exact a0_lt i kd h
theorem g3_Mr : ax_head (a0_X 6 fun _ _ _ _ => none) (fun c => (fun _ => false) c || ax_bk [(6, .inl 3)] 6 g3_M c) 3737 g3_M = true := by decide +kernel
theorem g3_MG {E : sx_E} (hL : sx_Ln E = 6) : ax_G E (a0_B E) a0_Q g3_M := ax_loop (a0_XO hL) a0_nost g3_M_lt (a0_bs6 hL rfl) rfl g3_Mr
theorem g3_Cr : ax_head (a0_X 6 fun _ _ _ _ => none) (fun c => ax_cut [(6, .inl 3)] g3_M c || ax_bk [(6, .inl 5)] 6 g3_C c) 3780 g3_C = true := by decide +kernel
theorem g3_CG {E : sx_E} (hL : sx_Ln E = 6) : ax_G E (a0_B E) a0_Q g3_C := ax_loop (a0_XO hL) (fun c hc => ax_cut_ok g3_M_lt (a0_bs6 hL rfl) (g3_MG hL) hc) g3_C_lt (a0_bs6 hL rfl) rfl g3_Cr
theorem g_r0 : ax_run2 (a0_X 6 fun _ _ _ _ => none) (fun _ => false) 383 [a0_at 685 ((a0_all 6).set 2 ((-2147483648), (-1)))] = true := by decide +kernel
theorem g_G0 {E : sx_E} (hL : sx_Ln E = 6) : ax_G E (a0_B E) a0_Q (a0_at 685 ((a0_all 6).set 2 ((-2147483648), (-1)))) := ax_run2_ok (a0_XO hL) a0_nost _ _ g_r0 _ (List.mem_singleton.mpr rfl)
theorem g_r1 : ax_run2 (a0_X 6 fun _ _ _ _ => none) (ax_cut [(6, .inl 5)] g0_C) 448 [a0_at 685 ((a0_all 6).set 2 (0, 0))] = true := by decide +kernel
theorem g_G1 {E : sx_E} (hL : sx_Ln E = 6) : ax_G E (a0_B E) a0_Q (a0_at 685 ((a0_all 6).set 2 (0, 0))) := ax_run2_ok (a0_XO hL) (fun c hc => ax_cut_ok g0_C_lt (a0_bs6 hL rfl) (g0_CG hL) hc) _ _ g_r1 _ (List.mem_singleton.mpr rfl)
theorem g_r2 : ax_run2 (a0_X 6 fun _ _ _ _ => none) (ax_cut [(6, .inl 5)] g1_C) 448 [a0_at 685 ((a0_all 6).set 2 (1, 1))] = true := by decide +kernel
theorem g_G2 {E : sx_E} (hL : sx_Ln E = 6) : ax_G E (a0_B E) a0_Q (a0_at 685 ((a0_all 6).set 2 (1, 1))) := ax_run2_ok (a0_XO hL) (fun c hc => ax_cut_ok g1_C_lt (a0_bs6 hL rfl) (g1_CG hL) hc) _ _ g_r2 _ (List.mem_singleton.mpr rfl)
theorem g_r3 : ax_run2 (a0_X 6 fun _ _ _ _ => none) (ax_cut [(6, .inl 5)] g2_C) 448 [a0_at 685 ((a0_all 6).set 2 (2, 2))] = true := by decide +kernel
theorem g_G3 {E : sx_E} (hL : sx_Ln E = 6) : ax_G E (a0_B E) a0_Q (a0_at 685 ((a0_all 6).set 2 (2, 2))) := ax_run2_ok (a0_XO hL) (fun c hc => ax_cut_ok g2_C_lt (a0_bs6 hL rfl) (g2_CG hL) hc) _ _ g_r3 _ (List.mem_singleton.mpr rfl)
theorem g_r4 : ax_run2 (a0_X 6 fun _ _ _ _ => none) (fun _ => false) 389 [a0_at 685 ((a0_all 6).set 2 (3, 9))] = true := by decide +kernel
theorem g_G4 {E : sx_E} (hL : sx_Ln E = 6) : ax_G E (a0_B E) a0_Q (a0_at 685 ((a0_all 6).set 2 (3, 9))) := ax_run2_ok (a0_XO hL) a0_nost _ _ g_r4 _ (List.mem_singleton.mpr rfl)
theorem g_r5 : ax_run2 (a0_X 6 fun _ _ _ _ => none) (ax_cut [(6, .inl 5)] g3_C) 453 [a0_at 685 ((a0_all 6).set 2 (10, 15))] = true := by decide +kernel
theorem g_G5 {E : sx_E} (hL : sx_Ln E = 6) : ax_G E (a0_B E) a0_Q (a0_at 685 ((a0_all 6).set 2 (10, 15))) := ax_run2_ok (a0_XO hL) (fun c hc => ax_cut_ok g3_C_lt (a0_bs6 hL rfl) (g3_CG hL) hc) _ _ g_r5 _ (List.mem_singleton.mpr rfl)
theorem g_r6 : ax_run2 (a0_X 6 fun _ _ _ _ => none) (fun _ => false) 395 [a0_at 685 ((a0_all 6).set 2 (16, 2147483647))] = true := by decide +kernel
theorem g_G6 {E : sx_E} (hL : sx_Ln E = 6) : ax_G E (a0_B E) a0_Q (a0_at 685 ((a0_all 6).set 2 (16, 2147483647))) := ax_run2_ok (a0_XO hL) a0_nost _ _ g_r6 _ (List.mem_singleton.mpr rfl)
theorem a1_G15 {E : sx_E} (hL : sx_Ln E = 6) : ax_G E (a0_B E) a0_Q (a0_at 685 (a0_all 6)) := ax_G.cuts 2 [(-1), 0, 1, 2, 9, 15] rfl (List.forall_mem_cons.mpr ⟨g_G0 hL, List.forall_mem_cons.mpr ⟨g_G1 hL, List.forall_mem_cons.mpr ⟨g_G2 hL, List.forall_mem_cons.mpr ⟨g_G3 hL, List.forall_mem_cons.mpr ⟨g_G4 hL, List.forall_mem_cons.mpr ⟨g_G5 hL, List.forall_mem_cons.mpr ⟨g_G6 hL, fun _ h => absurd h List.not_mem_nil⟩⟩⟩⟩⟩⟩⟩)
