-- ways, by what is asked
theorem k20_0_r0 : ax_run2 (a0_X 6 fun _ _ _ _ => none) (fun _ => false) 245 [a0_at 840 ((a0_all 6).set 1 ((-2147483648), (-1)))] = true := by decide +kernel
theorem k20_0_G0 {E : sx_E} (hL : sx_Ln E = 6) : ax_G E (a0_B E) a0_Q (a0_at 840 ((a0_all 6).set 1 ((-2147483648), (-1)))) := ax_run2_ok (a0_XO hL) a0_nost _ _ k20_0_r0 _ (List.mem_singleton.mpr rfl)
def k20_1_T1_g241 : Nat → ax_V := fun k => (bif Nat.beq k 0 then .inl (.int 1) else .inl (.int 0))
def k20_1_T1_sh (i : Nat) : Option (Nat × Nat) := bif (bif Nat.ble 239 i then (bif Nat.ble 241 i then (bif Nat.beq i 241 then true else false) else (bif Nat.beq i 239 then true else false)) else (bif Nat.beq i 214 then true else false)) then a0_sh i else none
def k20_1_T1_f (i : Nat) : Nat × (Nat → ax_V) := (bif Nat.beq i 241 then (0, k20_1_T1_g241) else a0_f i)
def k20_1_T1 : ax_C := ((418, 0, 0, 285, 9, [some (.inl (.ref 214)), some (.inl (.int (-1))), some (.inl (.int 365)), none, none, none, none], []), [(419, 0, 0, 283, 29, [some (.inl (.ref 214)), some (.inr (some (1, 0))), none, none, none], []), (420, 599749, 7282378, 326, 855, [some (.inl (.ref 1000000000)), some (.inl (.ref 0)), some (.inl (.ref 214)), some (.inl (.int 0))], [.inl (.int 1)])], (251, k20_1_T1_sh, k20_1_T1_f, a0_r), [((-2147483648), 2147483647), (0, 0), ((-2147483648), 2147483647), ((-2147483648), 2147483647), ((-2147483648), 2147483647), ((-2147483648), 2147483647)])
theorem k20_1_T1_lt : ∀ i kd, k20_1_T1_sh i = some kd → i < 251 := fun i kd h => by
  unfold k20_1_T1_sh at h
  generalize (bif Nat.ble 239 i then (bif Nat.ble 241 i then (bif Nat.beq i 241 then true else false) else (bif Nat.beq i 239 then true else false)) else (bif Nat.beq i 214 then true else false)) = b at h
  cases b with
  | false => cases h
  | true => exact a0_lt i kd h
def k20_1_T2_g241 : Nat → ax_V := fun k => (bif Nat.beq k 0 then .inl (.int 1) else .inl (.int 0))
def k20_1_T2_sh (i : Nat) : Option (Nat × Nat) := bif (bif Nat.ble 239 i then (bif Nat.ble 241 i then (bif Nat.beq i 241 then true else false) else (bif Nat.beq i 239 then true else false)) else (bif Nat.beq i 214 then true else false)) then a0_sh i else none
def k20_1_T2_f (i : Nat) : Nat × (Nat → ax_V) := (bif Nat.beq i 241 then (0, k20_1_T2_g241) else a0_f i)
def k20_1_T2 : ax_C := ((418, 0, 0, 285, 15, [some (.inl (.ref 214)), some (.inl (.int (-1))), some (.inl (.int 823)), none, none, none, none], [.inl (.int 823), .inl (.int 823), .inl (.ref 241)]), [(419, 0, 0, 283, 29, [some (.inl (.ref 214)), some (.inr (some (1, 0))), none, none, none], []), (420, 599749, 7282378, 326, 855, [some (.inl (.ref 1000000000)), some (.inl (.ref 0)), some (.inl (.ref 214)), some (.inl (.int 0))], [.inl (.int 1)])], (251, k20_1_T2_sh, k20_1_T2_f, a0_r), [((-2147483648), 2147483647), (0, 0), ((-2147483648), 2147483647), ((-2147483648), 2147483647), ((-2147483648), 2147483647), ((-2147483648), 2147483647)])
theorem k20_1_T2_lt : ∀ i kd, k20_1_T2_sh i = some kd → i < 251 := fun i kd h => by
  unfold k20_1_T2_sh at h
  generalize (bif Nat.ble 239 i then (bif Nat.ble 241 i then (bif Nat.beq i 241 then true else false) else (bif Nat.beq i 239 then true else false)) else (bif Nat.beq i 214 then true else false)) = b at h
  cases b with
  | false => cases h
  | true => exact a0_lt i kd h
def k20_1_T3_g241 : Nat → ax_V := fun k => (bif Nat.beq k 0 then .inl (.int 1) else .inl (.int 0))
def k20_1_T3_sh (i : Nat) : Option (Nat × Nat) := bif (bif Nat.ble 241 i then (bif Nat.beq i 241 then true else false) else (bif Nat.beq i 214 then true else false)) then a0_sh i else none
def k20_1_T3_f (i : Nat) : Nat × (Nat → ax_V) := (bif Nat.beq i 241 then (0, k20_1_T3_g241) else a0_f i)
def k20_1_T3 : ax_C := ((418, 0, 0, 285, 156, [some (.inl (.ref 214)), some (.inl (.int (-1))), some (.inl (.int 1)), some (.inl (.int 249)), none, none, none], [.inl (.int 249), .inl (.ref 241), .inl (.int 1)]), [(419, 0, 0, 283, 29, [some (.inl (.ref 214)), some (.inr (some (1, 0))), none, none, none], []), (420, 599749, 7282378, 326, 855, [some (.inl (.ref 1000000000)), some (.inl (.ref 0)), some (.inl (.ref 214)), some (.inl (.int 0))], [.inl (.int 1)])], (251, k20_1_T3_sh, k20_1_T3_f, a0_r), [((-2147483648), 2147483647), (0, 0), ((-2147483648), 2147483647), ((-2147483648), 2147483647), ((-2147483648), 2147483647), ((-2147483648), 2147483647)])
theorem k20_1_T3_lt : ∀ i kd, k20_1_T3_sh i = some kd → i < 251 := fun i kd h => by
  unfold k20_1_T3_sh at h
  generalize (bif Nat.ble 241 i then (bif Nat.beq i 241 then true else false) else (bif Nat.beq i 214 then true else false)) = b at h
  cases b with
  | false => cases h
  | true => exact a0_lt i kd h
def k20_1_T4_g241 : Nat → ax_V := fun k => (bif Nat.beq k 0 then .inl (.int 1) else .inl (.int 0))
def k20_1_T4_sh (i : Nat) : Option (Nat × Nat) := bif (bif Nat.ble 241 i then (bif Nat.beq i 241 then true else false) else (bif Nat.beq i 214 then true else false)) then a0_sh i else none
def k20_1_T4_f (i : Nat) : Nat × (Nat → ax_V) := (bif Nat.beq i 241 then (0, k20_1_T4_g241) else a0_f i)
def k20_1_T4 : ax_C := ((418, 0, 0, 285, 162, [some (.inl (.ref 214)), some (.inl (.int (-1))), some (.inl (.int 1)), some (.inl (.int 708)), none, none, none], []), [(419, 0, 0, 283, 29, [some (.inl (.ref 214)), some (.inr (some (1, 0))), none, none, none], []), (420, 599749, 7282378, 326, 855, [some (.inl (.ref 1000000000)), some (.inl (.ref 0)), some (.inl (.ref 214)), some (.inl (.int 0))], [.inl (.int 1)])], (251, k20_1_T4_sh, k20_1_T4_f, a0_r), [((-2147483648), 2147483647), (0, 0), ((-2147483648), 2147483647), ((-2147483648), 2147483647), ((-2147483648), 2147483647), ((-2147483648), 2147483647)])
theorem k20_1_T4_lt : ∀ i kd, k20_1_T4_sh i = some kd → i < 251 := fun i kd h => by
  unfold k20_1_T4_sh at h
  generalize (bif Nat.ble 241 i then (bif Nat.beq i 241 then true else false) else (bif Nat.beq i 214 then true else false)) = b at h
  cases b with
  | false => cases h
  | true => exact a0_lt i kd h
theorem k20_1_r0 : ax_run2 (a0_X 6 fun _ _ _ _ => none) (ax_cut [] k20_1_T1) 5701 [a0_at 840 ((a0_all 6).set 1 (0, 0))] = true := by decide +kernel
theorem k20_1_r1 : ax_run2 (a0_X 6 fun _ _ _ _ => none) (ax_cut [] k20_1_T2) 5701 [k20_1_T1] = true := by decide +kernel
theorem k20_1_r2 : ax_run2 (a0_X 6 fun _ _ _ _ => none) (ax_cut [] k20_1_T3) 5701 [k20_1_T2] = true := by decide +kernel
theorem k20_1_r3 : ax_run2 (a0_X 6 fun _ _ _ _ => none) (ax_cut [] k20_1_T4) 5701 [k20_1_T3] = true := by decide +kernel
theorem k20_1_r4 : ax_run2 (a0_X 6 fun _ _ _ _ => none) (fun _ => false) 4014 [k20_1_T4] = true := by decide +kernel
theorem k20_1_G4 {E : sx_E} (hL : sx_Ln E = 6) : ax_G E (a0_B E) a0_Q k20_1_T4 := ax_run2_ok (a0_XO hL) a0_nost _ _ k20_1_r4 _ (List.mem_singleton.mpr rfl)
theorem k20_1_G3 {E : sx_E} (hL : sx_Ln E = 6) : ax_G E (a0_B E) a0_Q k20_1_T3 := ax_run2_ok (a0_XO hL) (fun c hc => ax_cut_ok (ds := []) k20_1_T4_lt (a0_bst (E := E)) (k20_1_G4 hL) hc) _ _ k20_1_r3 _ (List.mem_singleton.mpr rfl)
theorem k20_1_G2 {E : sx_E} (hL : sx_Ln E = 6) : ax_G E (a0_B E) a0_Q k20_1_T2 := ax_run2_ok (a0_XO hL) (fun c hc => ax_cut_ok (ds := []) k20_1_T3_lt (a0_bst (E := E)) (k20_1_G3 hL) hc) _ _ k20_1_r2 _ (List.mem_singleton.mpr rfl)
theorem k20_1_G1 {E : sx_E} (hL : sx_Ln E = 6) : ax_G E (a0_B E) a0_Q k20_1_T1 := ax_run2_ok (a0_XO hL) (fun c hc => ax_cut_ok (ds := []) k20_1_T2_lt (a0_bst (E := E)) (k20_1_G2 hL) hc) _ _ k20_1_r1 _ (List.mem_singleton.mpr rfl)
theorem k20_1_G0 {E : sx_E} (hL : sx_Ln E = 6) : ax_G E (a0_B E) a0_Q (a0_at 840 ((a0_all 6).set 1 (0, 0))) := ax_run2_ok (a0_XO hL) (fun c hc => ax_cut_ok (ds := []) k20_1_T1_lt (a0_bst (E := E)) (k20_1_G1 hL) hc) _ _ k20_1_r0 _ (List.mem_singleton.mpr rfl)
def k20_2_T1_g241 : Nat → ax_V := fun k => (bif Nat.beq k 0 then .inl (.int 1) else .inl (.int 0))
def k20_2_T1_sh (i : Nat) : Option (Nat × Nat) := bif (bif Nat.ble 239 i then (bif Nat.ble 241 i then (bif Nat.beq i 241 then true else false) else (bif Nat.beq i 239 then true else false)) else (bif Nat.beq i 214 then true else false)) then a0_sh i else none
def k20_2_T1_f (i : Nat) : Nat × (Nat → ax_V) := (bif Nat.beq i 241 then (0, k20_2_T1_g241) else a0_f i)
def k20_2_T1 : ax_C := ((418, 0, 0, 285, 24, [some (.inl (.ref 214)), some (.inl (.int (-1))), some (.inl (.int 257)), none, none, none, none], []), [(419, 0, 0, 283, 29, [some (.inl (.ref 214)), some (.inr (some (1, 0))), none, none, none], []), (420, 599749, 7282378, 326, 855, [some (.inl (.ref 1000000000)), some (.inl (.ref 0)), some (.inl (.ref 214)), some (.inl (.int 0))], [.inl (.int 0)])], (251, k20_2_T1_sh, k20_2_T1_f, a0_r), [((-2147483648), 2147483647), (1, 1), ((-2147483648), 2147483647), ((-2147483648), 2147483647), ((-2147483648), 2147483647), ((-2147483648), 2147483647)])
theorem k20_2_T1_lt : ∀ i kd, k20_2_T1_sh i = some kd → i < 251 := fun i kd h => by
  unfold k20_2_T1_sh at h
  generalize (bif Nat.ble 239 i then (bif Nat.ble 241 i then (bif Nat.beq i 241 then true else false) else (bif Nat.beq i 239 then true else false)) else (bif Nat.beq i 214 then true else false)) = b at h
  cases b with
  | false => cases h
  | true => exact a0_lt i kd h
def k20_2_T2_g241 : Nat → ax_V := fun k => (bif Nat.beq k 0 then .inl (.int 1) else .inl (.int 0))
def k20_2_T2_sh (i : Nat) : Option (Nat × Nat) := bif (bif Nat.ble 239 i then (bif Nat.ble 241 i then (bif Nat.beq i 241 then true else false) else (bif Nat.beq i 239 then true else false)) else (bif Nat.beq i 214 then true else false)) then a0_sh i else none
def k20_2_T2_f (i : Nat) : Nat × (Nat → ax_V) := (bif Nat.beq i 241 then (0, k20_2_T2_g241) else a0_f i)
def k20_2_T2 : ax_C := ((418, 0, 0, 285, 6, [some (.inl (.ref 214)), some (.inl (.int (-1))), some (.inl (.int 716)), none, none, none, none], [.inl (.int 1024), .inl (.int 716)]), [(419, 0, 0, 283, 29, [some (.inl (.ref 214)), some (.inr (some (1, 0))), none, none, none], []), (420, 599749, 7282378, 326, 855, [some (.inl (.ref 1000000000)), some (.inl (.ref 0)), some (.inl (.ref 214)), some (.inl (.int 0))], [.inl (.int 0)])], (251, k20_2_T2_sh, k20_2_T2_f, a0_r), [((-2147483648), 2147483647), (1, 1), ((-2147483648), 2147483647), ((-2147483648), 2147483647), ((-2147483648), 2147483647), ((-2147483648), 2147483647)])
theorem k20_2_T2_lt : ∀ i kd, k20_2_T2_sh i = some kd → i < 251 := fun i kd h => by
  unfold k20_2_T2_sh at h
  generalize (bif Nat.ble 239 i then (bif Nat.ble 241 i then (bif Nat.beq i 241 then true else false) else (bif Nat.beq i 239 then true else false)) else (bif Nat.beq i 214 then true else false)) = b at h
  cases b with
  | false => cases h
  | true => exact a0_lt i kd h
def k20_2_T3_g241 : Nat → ax_V := fun k => (bif Nat.beq k 0 then .inl (.int 1) else .inl (.int 0))
def k20_2_T3_sh (i : Nat) : Option (Nat × Nat) := bif (bif Nat.ble 241 i then (bif Nat.beq i 241 then true else false) else (bif Nat.beq i 214 then true else false)) then a0_sh i else none
def k20_2_T3_f (i : Nat) : Nat × (Nat → ax_V) := (bif Nat.beq i 241 then (0, k20_2_T3_g241) else a0_f i)
def k20_2_T3 : ax_C := ((418, 0, 0, 285, 147, [some (.inl (.ref 214)), some (.inl (.int (-1))), some (.inl (.int 1)), some (.inl (.int 142)), none, none, none], [.inl (.int 1024), .inl (.int 142)]), [(419, 0, 0, 283, 29, [some (.inl (.ref 214)), some (.inr (some (1, 0))), none, none, none], []), (420, 599749, 7282378, 326, 855, [some (.inl (.ref 1000000000)), some (.inl (.ref 0)), some (.inl (.ref 214)), some (.inl (.int 0))], [.inl (.int 0)])], (251, k20_2_T3_sh, k20_2_T3_f, a0_r), [((-2147483648), 2147483647), (1, 1), ((-2147483648), 2147483647), ((-2147483648), 2147483647), ((-2147483648), 2147483647), ((-2147483648), 2147483647)])
theorem k20_2_T3_lt : ∀ i kd, k20_2_T3_sh i = some kd → i < 251 := fun i kd h => by
  unfold k20_2_T3_sh at h
  generalize (bif Nat.ble 241 i then (bif Nat.beq i 241 then true else false) else (bif Nat.beq i 214 then true else false)) = b at h
  cases b with
  | false => cases h
  | true => exact a0_lt i kd h
def k20_2_T4_g241 : Nat → ax_V := fun k => (bif Nat.beq k 0 then .inl (.int 1) else .inl (.int 0))
def k20_2_T4_sh (i : Nat) : Option (Nat × Nat) := bif (bif Nat.ble 241 i then (bif Nat.beq i 241 then true else false) else (bif Nat.beq i 214 then true else false)) then a0_sh i else none
def k20_2_T4_f (i : Nat) : Nat × (Nat → ax_V) := (bif Nat.beq i 241 then (0, k20_2_T4_g241) else a0_f i)
def k20_2_T4 : ax_C := ((418, 0, 0, 285, 155, [some (.inl (.ref 214)), some (.inl (.int (-1))), some (.inl (.int 1)), some (.inl (.int 600)), none, none, none], [.inl (.ref 241), .inl (.int 1)]), [(419, 0, 0, 283, 29, [some (.inl (.ref 214)), some (.inr (some (1, 0))), none, none, none], []), (420, 599749, 7282378, 326, 855, [some (.inl (.ref 1000000000)), some (.inl (.ref 0)), some (.inl (.ref 214)), some (.inl (.int 0))], [.inl (.int 0)])], (251, k20_2_T4_sh, k20_2_T4_f, a0_r), [((-2147483648), 2147483647), (1, 1), ((-2147483648), 2147483647), ((-2147483648), 2147483647), ((-2147483648), 2147483647), ((-2147483648), 2147483647)])
theorem k20_2_T4_lt : ∀ i kd, k20_2_T4_sh i = some kd → i < 251 := fun i kd h => by
  unfold k20_2_T4_sh at h
  generalize (bif Nat.ble 241 i then (bif Nat.beq i 241 then true else false) else (bif Nat.beq i 214 then true else false)) = b at h
  cases b with
  | false => cases h
  | true => exact a0_lt i kd h
theorem k20_2_r0 : ax_run2 (a0_X 6 fun _ _ _ _ => none) (ax_cut [] k20_2_T1) 5701 [a0_at 840 ((a0_all 6).set 1 (1, 1))] = true := by decide +kernel
theorem k20_2_r1 : ax_run2 (a0_X 6 fun _ _ _ _ => none) (ax_cut [] k20_2_T2) 5701 [k20_2_T1] = true := by decide +kernel
theorem k20_2_r2 : ax_run2 (a0_X 6 fun _ _ _ _ => none) (ax_cut [] k20_2_T3) 5701 [k20_2_T2] = true := by decide +kernel
theorem k20_2_r3 : ax_run2 (a0_X 6 fun _ _ _ _ => none) (ax_cut [] k20_2_T4) 5701 [k20_2_T3] = true := by decide +kernel
theorem k20_2_r4 : ax_run2 (a0_X 6 fun _ _ _ _ => none) (fun _ => false) 5311 [k20_2_T4] = true := by decide +kernel
theorem k20_2_G4 {E : sx_E} (hL : sx_Ln E = 6) : ax_G E (a0_B E) a0_Q k20_2_T4 := ax_run2_ok (a0_XO hL) a0_nost _ _ k20_2_r4 _ (List.mem_singleton.mpr rfl)
theorem k20_2_G3 {E : sx_E} (hL : sx_Ln E = 6) : ax_G E (a0_B E) a0_Q k20_2_T3 := ax_run2_ok (a0_XO hL) (fun c hc => ax_cut_ok (ds := []) k20_2_T4_lt (a0_bst (E := E)) (k20_2_G4 hL) hc) _ _ k20_2_r3 _ (List.mem_singleton.mpr rfl)
theorem k20_2_G2 {E : sx_E} (hL : sx_Ln E = 6) : ax_G E (a0_B E) a0_Q k20_2_T2 := ax_run2_ok (a0_XO hL) (fun c hc => ax_cut_ok (ds := []) k20_2_T3_lt (a0_bst (E := E)) (k20_2_G3 hL) hc) _ _ k20_2_r2 _ (List.mem_singleton.mpr rfl)
theorem k20_2_G1 {E : sx_E} (hL : sx_Ln E = 6) : ax_G E (a0_B E) a0_Q k20_2_T1 := ax_run2_ok (a0_XO hL) (fun c hc => ax_cut_ok (ds := []) k20_2_T2_lt (a0_bst (E := E)) (k20_2_G2 hL) hc) _ _ k20_2_r1 _ (List.mem_singleton.mpr rfl)
theorem k20_2_G0 {E : sx_E} (hL : sx_Ln E = 6) : ax_G E (a0_B E) a0_Q (a0_at 840 ((a0_all 6).set 1 (1, 1))) := ax_run2_ok (a0_XO hL) (fun c hc => ax_cut_ok (ds := []) k20_2_T1_lt (a0_bst (E := E)) (k20_2_G1 hL) hc) _ _ k20_2_r0 _ (List.mem_singleton.mpr rfl)
theorem k20_3_r0 : ax_run2 (a0_X 6 fun _ _ _ _ => none) (fun _ => false) 2851 [a0_at 840 ((a0_all 6).set 1 (2, 2))] = true := by decide +kernel
theorem k20_3_G0 {E : sx_E} (hL : sx_Ln E = 6) : ax_G E (a0_B E) a0_Q (a0_at 840 ((a0_all 6).set 1 (2, 2))) := ax_run2_ok (a0_XO hL) a0_nost _ _ k20_3_r0 _ (List.mem_singleton.mpr rfl)
theorem k20_4_r0 : ax_run2 (a0_X 6 fun _ _ _ _ => none) (fun _ => false) 251 [a0_at 840 ((a0_all 6).set 1 (3, 2147483647))] = true := by decide +kernel
theorem k20_4_G0 {E : sx_E} (hL : sx_Ln E = 6) : ax_G E (a0_B E) a0_Q (a0_at 840 ((a0_all 6).set 1 (3, 2147483647))) := ax_run2_ok (a0_XO hL) a0_nost _ _ k20_4_r0 _ (List.mem_singleton.mpr rfl)
theorem a1_G20 {E : sx_E} (hL : sx_Ln E = 6) : ax_G E (a0_B E) a0_Q (a0_at 840 (a0_all 6)) := ax_G.cuts 1 [(-1), 0, 1, 2] rfl (List.forall_mem_cons.mpr ⟨k20_0_G0 hL, List.forall_mem_cons.mpr ⟨k20_1_G0 hL, List.forall_mem_cons.mpr ⟨k20_2_G0 hL, List.forall_mem_cons.mpr ⟨k20_3_G0 hL, List.forall_mem_cons.mpr ⟨k20_4_G0 hL, fun _ h => absurd h List.not_mem_nil⟩⟩⟩⟩⟩)
