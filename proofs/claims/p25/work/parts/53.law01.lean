-- by program (wip/gen/mklaw.py)
theorem zpf_M_state {a : Nat} {i : Int} (hc : zPc a i) : ¬ fr_M_state a i := fun w => by
  have ha := zPc_le hc
  unfold fr_M_state at w
  clear hc
  omega
theorem zbg_M_stateFlw {a : Nat} {i : Int} (h : zFlw a i) : ¬ fr_M_state a i := fun w => by
  unfold fr_M_state at w
  unfold zFlw at h
  omega
theorem zbg_S_stateFlw {a : Nat} {i : Int} (h : zFlw a i) : ¬ fr_S_state a i := fun w => by
  unfold fr_S_state at w
  unfold zFlw at h
  omega
theorem zbg_M_stateFlk {a : Nat} {i : Int} (h : zFlk a i) : ¬ fr_M_state a i := fun w => by
  unfold fr_M_state at w
  unfold zFlk at h
  omega
theorem zbg_S_stateFlk {a : Nat} {i : Int} (h : zFlk a i) : ¬ fr_S_state a i := fun w => by
  unfold fr_S_state at w
  unfold zFlk at h
  omega
set_option maxRecDepth 100000 in
set_option maxHeartbeats 4000000 in
theorem zw_c0 {E : sx_E} {i : Int} {g : zi_M} (hL : sx_Ln E ≤ 3072) (h0 : 0 ≤ i) (h6 : i + 6 ≤ ((sx_Ln E : Nat) : Int)) (R : zw_R g) (k : ∀ g' : zi_M, zw_R g' → zi_W E 420 326 1356 [some (.ref 1000000000), some (.ref 0), some (.ref 214), some (zi_i i)] [] g' zw_Q) : zi_W E 420 326 200 [some (.ref 1000000000), some (.ref 0), some (.ref 214), some (zi_i i)] [] g zw_Q := by
  obtain ⟨I, R0, R1, R2, R3, R4, R5, R6, R7, R8, R9, R10, R11, R12, R13, R14, R15, R16, R17, R18, R19, R20, R21⟩ := R
  refine zi_aload_n (pc' := 201) rfl rfl rfl ?_
  refine zi_aload_n (pc' := 202) rfl rfl rfl ?_
  refine zi_iload_n (pc' := 203) rfl rfl rfl ?_
  refine zi_iconst (pc' := 204) rfl rfl ?_
  refine zi_iadd (pc' := 205) rfl rfl ?_
  refine zi_xald (pc' := 206) rfl rfl hL ⟨by omega, by omega⟩ ?_
  refine zi_callV (d' := 2) (as := [_]) (pc' := 209) rfl rfl rfl rfl (by decide) (s_S_state (Q := fun v g' => zk_I g' ∧ zk_fr fr_S_state g g' ∧ ((-2147483648) ≤ v ∧ v ≤ 2147483647) ∧ (g' 91 1 = 0) ∧ (g' 2 18 = (zw_s E (i + 1))) ∧ (v = g 2 18)) (Nat.le_refl _) (k_S_state I (zw_r _ _) (fun v g' I' F' h0 h1 h2 h3 => ⟨I', F', h0, h1, h2, h3⟩))) (zi_ki (fun v1 g1 h1 => ?_))
  obtain ⟨I1, F1, p1_0, p1_1, p1_2, p1_3⟩ := h1
  have c1_0_2 : g1 0 2 = g 0 2 := F1 0 2 (by first | (simp [fr_S_state]; done) | (unfold fr_S_state; omega))
  have c1_0_8 : g1 0 8 = g 0 8 := F1 0 8 (by first | (simp [fr_S_state]; done) | (unfold fr_S_state; omega))
  have c1_2_8 : g1 2 8 = g 2 8 := F1 2 8 (by first | (simp [fr_S_state]; done) | (unfold fr_S_state; omega))
  have c1_2_11 : g1 2 11 = g 2 11 := F1 2 11 (by first | (simp [fr_S_state]; done) | (unfold fr_S_state; omega))
  have c1_47_8 : g1 47 8 = g 47 8 := F1 47 8 (by first | (simp [fr_S_state]; done) | (unfold fr_S_state; omega))
  have c1_47_11 : g1 47 11 = g 47 11 := F1 47 11 (by first | (simp [fr_S_state]; done) | (unfold fr_S_state; omega))
  have c1_214_6 : g1 214 6 = g 214 6 := F1 214 6 (by first | (simp [fr_S_state]; done) | (unfold fr_S_state; omega))
  have c1_214_7 : g1 214 7 = g 214 7 := F1 214 7 (by first | (simp [fr_S_state]; done) | (unfold fr_S_state; omega))
  have c1_214_13 : g1 214 13 = g 214 13 := F1 214 13 (by first | (simp [fr_S_state]; done) | (unfold fr_S_state; omega))
  have c1_214_62 : g1 214 62 = g 214 62 := F1 214 62 (by first | (simp [fr_S_state]; done) | (unfold fr_S_state; omega))
  have c1_250_264 : g1 250 264 = g 250 264 := F1 250 264 (by first | (simp [fr_S_state]; done) | (unfold fr_S_state; omega))
  have c1_250_265 : g1 250 265 = g 250 265 := F1 250 265 (by first | (simp [fr_S_state]; done) | (unfold fr_S_state; omega))
  have Z1 : zP g1 := zP_0 p1_1
  refine zi_pop (pc' := 210) rfl rfl rfl ?_
  refine zi_aload_n (pc' := 211) rfl rfl rfl ?_
  refine zi_aload_n (pc' := 212) rfl rfl rfl ?_
  refine zi_iload_n (pc' := 213) rfl rfl rfl ?_
  refine zi_iconst (pc' := 214) rfl rfl ?_
  refine zi_iadd (pc' := 215) rfl rfl ?_
  refine zi_xald (pc' := 216) rfl rfl hL ⟨by omega, by omega⟩ ?_
  refine zi_callV (d' := 1) (as := [_]) (pc' := 219) rfl rfl rfl rfl (by decide) (s_M_state (Q := fun v g' => zk_I g' ∧ zk_fr fr_M_state g1 g' ∧ ((-2147483648) ≤ v ∧ v ≤ 2147483647) ∧ (∀ k : Int, 0 ≤ k ∧ k < 264 → (k = 1 → g' 215 k = (zw_s E (i + 1))) ∧ (¬ k = 1 → g' 215 k = g1 215 k)) ∧ (g' 214 3 = 0) ∧ (v = g1 215 1)) (Nat.le_refl _) (k_M_state I1 (zw_r _ _) (fun v g' I' F' h0 h1 h2 h3 => ⟨I', F', h0, h1, h2, h3⟩))) (zi_ki (fun v2 g2 h2 => ?_))
  obtain ⟨I2, F2, p2_0, p2_1, p2_2, p2_3⟩ := h2
  have c2_0_2 : g2 0 2 = g1 0 2 := F2 0 2 (by first | (simp [fr_M_state]; done) | (unfold fr_M_state; omega))
  have c2_0_8 : g2 0 8 = g1 0 8 := F2 0 8 (by first | (simp [fr_M_state]; done) | (unfold fr_M_state; omega))
  have c2_2_8 : g2 2 8 = g1 2 8 := F2 2 8 (by first | (simp [fr_M_state]; done) | (unfold fr_M_state; omega))
  have c2_2_11 : g2 2 11 = g1 2 11 := F2 2 11 (by first | (simp [fr_M_state]; done) | (unfold fr_M_state; omega))
  have c2_47_8 : g2 47 8 = g1 47 8 := F2 47 8 (by first | (simp [fr_M_state]; done) | (unfold fr_M_state; omega))
  have c2_47_11 : g2 47 11 = g1 47 11 := F2 47 11 (by first | (simp [fr_M_state]; done) | (unfold fr_M_state; omega))
  have c2_214_6 : g2 214 6 = g1 214 6 := F2 214 6 (by first | (simp [fr_M_state]; done) | (unfold fr_M_state; omega))
  have c2_214_7 : g2 214 7 = g1 214 7 := F2 214 7 (by first | (simp [fr_M_state]; done) | (unfold fr_M_state; omega))
  have c2_214_13 : g2 214 13 = g1 214 13 := F2 214 13 (by first | (simp [fr_M_state]; done) | (unfold fr_M_state; omega))
  have c2_214_62 : g2 214 62 = g1 214 62 := F2 214 62 (by first | (simp [fr_M_state]; done) | (unfold fr_M_state; omega))
  have c2_250_264 : g2 250 264 = g1 250 264 := F2 250 264 (by first | (simp [fr_M_state]; done) | (unfold fr_M_state; omega))
  have c2_250_265 : g2 250 265 = g1 250 265 := F2 250 265 (by first | (simp [fr_M_state]; done) | (unfold fr_M_state; omega))
  have Z2 : zP g2 := zP_eq (fun a i hc => F2 a i (zpf_M_state hc)) Z1
  have zb_ : zBD g2 := zBD_state R11 p1_1 p2_1 p2_2 (fun a i h => F1 a i (fun w => by unfold fr_S_state at w; omega)) (fun a i h => F2 a i (fun w => by unfold fr_M_state at w; omega)) (fun a i h => by (try unfold zFsx at h); (try unfold zFt at h); exact (F2 a i (fun w => by unfold fr_M_state at w; omega)).trans (F1 a i (fun w => by unfold fr_S_state at w; omega)))
  have zf2_ : zFD g2 := zFD_state R20 p1_1 p1_2 p2_1 (fun a i h => F1 a i (fun w => by unfold fr_S_state at w; omega)) (fun a i h => F2 a i (fun w => by unfold fr_M_state at w; omega)) (fun a i h => by unfold zFe1 at h; unfold zFs0 at h; (exact (F2 a i (fun w => by unfold fr_M_state at w; omega)).trans (F1 a i (fun w => by unfold fr_S_state at w; omega))))
  refine zi_pop (pc' := 220) rfl rfl rfl ?_
  refine zi_goto (x := 1356) rfl ?_
  exact k _ ⟨I2, (by rw [c2_0_2, c1_0_2, c2_214_62, c1_214_62]; exact R0), (by rw [c2_0_8, c1_0_8, c2_214_13, c1_214_13]; exact R1), (funext fun k => by rw [F2 190 k (by first | (simp [fr_M_state]; done) | (unfold fr_M_state; omega)), F1 190 k (by first | (simp [fr_S_state]; done) | (unfold fr_S_state; omega)), F2 222 k (by first | (simp [fr_M_state]; done) | (unfold fr_M_state; omega)), F1 222 k (by first | (simp [fr_S_state]; done) | (unfold fr_S_state; omega))]; exact congrFun R2 k), (by rw [c2_2_8, c1_2_8, c2_214_6, c1_214_6]; exact R3), (fun q => by rw [c2_47_8, c1_47_8, c2_250_264, c1_250_264]; exact R4 (by rw [c2_0_2, c1_0_2] at q; exact q)), (by rw [c2_2_11, c1_2_11, c2_214_7, c1_214_7]; exact R5), (fun q => by rw [c2_47_11, c1_47_11, c2_250_265, c1_250_265]; exact R6 (by rw [c2_0_2, c1_0_2] at q; exact q)), (zXw_n R7 (by rw [F2 19 5 (by first | (simp [fr_M_state]; done) | (unfold fr_M_state; omega)), F1 19 5 (by first | (simp [fr_S_state]; done) | (unfold fr_S_state; omega))]) (by rw [F2 214 37 (by first | (simp [fr_M_state]; done) | (unfold fr_M_state; omega)), F1 214 37 (by first | (simp [fr_S_state]; done) | (unfold fr_S_state; omega))]) (fun k => by rw [F2 30 k (by first | (simp [fr_M_state]; done) | (unfold fr_M_state; omega)), F1 30 k (by first | (simp [fr_S_state]; done) | (unfold fr_S_state; omega))]) (fun k => by rw [F2 31 k (by first | (simp [fr_M_state]; done) | (unfold fr_M_state; omega)), F1 31 k (by first | (simp [fr_S_state]; done) | (unfold fr_S_state; omega))]) (fun k _ => by rw [F2 233 k (by first | (simp [fr_M_state]; done) | (unfold fr_M_state; omega)), F1 233 k (by first | (simp [fr_S_state]; done) | (unfold fr_S_state; omega))]) (show 0 ≤ g 19 5 ∧ g 19 5 ≤ 16 from I.1 19 5).2), (fun q => zXwk_n (R8 (by omega)) (by rw [F2 64 5 (by first | (simp [fr_M_state]; done) | (unfold fr_M_state; omega)), F1 64 5 (by first | (simp [fr_S_state]; done) | (unfold fr_S_state; omega))]) (fun k => by rw [F2 75 k (by first | (simp [fr_M_state]; done) | (unfold fr_M_state; omega)), F1 75 k (by first | (simp [fr_S_state]; done) | (unfold fr_S_state; omega))]) (fun k => by rw [F2 76 k (by first | (simp [fr_M_state]; done) | (unfold fr_M_state; omega)), F1 76 k (by first | (simp [fr_S_state]; done) | (unfold fr_S_state; omega))]) (fun k => by rw [F2 250 k (by first | (simp [fr_M_state]; done) | (unfold fr_M_state; omega)), F1 250 k (by first | (simp [fr_S_state]; done) | (unfold fr_S_state; omega))])), (zXg_n R9 (by rw [F2 19 2 (by first | (simp [fr_M_state]; done) | (unfold fr_M_state; omega)), F1 19 2 (by first | (simp [fr_S_state]; done) | (unfold fr_S_state; omega))]) (by rw [F2 214 35 (by first | (simp [fr_M_state]; done) | (unfold fr_M_state; omega)), F1 214 35 (by first | (simp [fr_S_state]; done) | (unfold fr_S_state; omega))]) (fun k => by rw [F2 29 k (by first | (simp [fr_M_state]; done) | (unfold fr_M_state; omega)), F1 29 k (by first | (simp [fr_S_state]; done) | (unfold fr_S_state; omega))]) (fun k _ => by rw [F2 232 k (by first | (simp [fr_M_state]; done) | (unfold fr_M_state; omega)), F1 232 k (by first | (simp [fr_S_state]; done) | (unfold fr_S_state; omega))])), (fun q => zXgk_n (R10 (by omega)) (by rw [F2 64 2 (by first | (simp [fr_M_state]; done) | (unfold fr_M_state; omega)), F1 64 2 (by first | (simp [fr_S_state]; done) | (unfold fr_S_state; omega))]) (fun k => by rw [F2 74 k (by first | (simp [fr_M_state]; done) | (unfold fr_M_state; omega)), F1 74 k (by first | (simp [fr_S_state]; done) | (unfold fr_S_state; omega))]) (fun k => by rw [F2 250 k (by first | (simp [fr_M_state]; done) | (unfold fr_M_state; omega)), F1 250 k (by first | (simp [fr_S_state]; done) | (unfold fr_S_state; omega))])), zb_, (zRw_n (fun k => by rw [F2 5 k (by first | (simp [fr_M_state]; done) | (unfold fr_M_state; omega)), F1 5 k (by first | (simp [fr_S_state]; done) | (unfold fr_S_state; omega))]) (fun k => by rw [F2 220 k (by first | (simp [fr_M_state]; done) | (unfold fr_M_state; omega)), F1 220 k (by first | (simp [fr_S_state]; done) | (unfold fr_S_state; omega))]) R12), (fun q => zRw_nk (fun k => by rw [F2 50 k (by first | (simp [fr_M_state]; done) | (unfold fr_M_state; omega)), F1 50 k (by first | (simp [fr_S_state]; done) | (unfold fr_S_state; omega))]) (fun k => by rw [F2 250 k (by first | (simp [fr_M_state]; done) | (unfold fr_M_state; omega)), F1 250 k (by first | (simp [fr_S_state]; done) | (unfold fr_S_state; omega))]) (R13 (by omega))), (zRw_n (fun k => by rw [F2 3 k (by first | (simp [fr_M_state]; done) | (unfold fr_M_state; omega)), F1 3 k (by first | (simp [fr_S_state]; done) | (unfold fr_S_state; omega))]) (fun k => by rw [F2 218 k (by first | (simp [fr_M_state]; done) | (unfold fr_M_state; omega)), F1 218 k (by first | (simp [fr_S_state]; done) | (unfold fr_S_state; omega))]) R14), (fun q => zRw_nk (fun k => by rw [F2 48 k (by first | (simp [fr_M_state]; done) | (unfold fr_M_state; omega)), F1 48 k (by first | (simp [fr_S_state]; done) | (unfold fr_S_state; omega))]) (fun k => by rw [F2 250 k (by first | (simp [fr_M_state]; done) | (unfold fr_M_state; omega)), F1 250 k (by first | (simp [fr_S_state]; done) | (unfold fr_S_state; omega))]) (R15 (by omega))), (zRw_n (fun k => by rw [F2 4 k (by first | (simp [fr_M_state]; done) | (unfold fr_M_state; omega)), F1 4 k (by first | (simp [fr_S_state]; done) | (unfold fr_S_state; omega))]) (fun k => by rw [F2 219 k (by first | (simp [fr_M_state]; done) | (unfold fr_M_state; omega)), F1 219 k (by first | (simp [fr_S_state]; done) | (unfold fr_S_state; omega))]) R16), (fun q => zRw_nk (fun k => by rw [F2 49 k (by first | (simp [fr_M_state]; done) | (unfold fr_M_state; omega)), F1 49 k (by first | (simp [fr_S_state]; done) | (unfold fr_S_state; omega))]) (fun k => by rw [F2 250 k (by first | (simp [fr_M_state]; done) | (unfold fr_M_state; omega)), F1 250 k (by first | (simp [fr_S_state]; done) | (unfold fr_S_state; omega))]) (R17 (by omega))), (zLW_n R18 (show 0 ≤ g 224 0 ∧ g 224 0 ≤ 16 from I.1 224 0).2 (fun a i h => (F2 a i (zbg_M_stateFlw h)).trans (F1 a i (zbg_S_stateFlw h)))), (fun q => zLWk_n (R19 (by omega)) (fun a i h => (F2 a i (zbg_M_stateFlk h)).trans (F1 a i (zbg_S_stateFlk h)))), zf2_, Z2⟩
theorem zpf_M_spout {a : Nat} {i : Int} (hc : zPc a i) : ¬ fr_M_spout a i := fun w => by
  have ha := zPc_le hc
  unfold fr_M_spout at w
  clear hc
  omega
theorem zbg_M_spoutFlw {a : Nat} {i : Int} (h : zFlw a i) : ¬ fr_M_spout a i := fun w => by
  unfold fr_M_spout at w
  unfold zFlw at h
  omega
theorem zbg_S_spoutFlw {a : Nat} {i : Int} (h : zFlw a i) : ¬ fr_S_spout a i := fun w => by
  unfold fr_S_spout at w
  unfold zFlw at h
  omega
theorem zbg_M_spoutFlk {a : Nat} {i : Int} (h : zFlk a i) : ¬ fr_M_spout a i := fun w => by
  unfold fr_M_spout at w
  unfold zFlk at h
  omega
theorem zbg_S_spoutFlk {a : Nat} {i : Int} (h : zFlk a i) : ¬ fr_S_spout a i := fun w => by
  unfold fr_S_spout at w
  unfold zFlk at h
  omega
set_option maxRecDepth 100000 in
set_option maxHeartbeats 4000000 in
theorem zw_c1 {E : sx_E} {i : Int} {g : zi_M} (hL : sx_Ln E ≤ 3072) (h0 : 0 ≤ i) (h6 : i + 6 ≤ ((sx_Ln E : Nat) : Int)) (R : zw_R g) (k : ∀ g' : zi_M, zw_R g' → zi_W E 420 326 1356 [some (.ref 1000000000), some (.ref 0), some (.ref 214), some (zi_i i)] [] g' zw_Q) : zi_W E 420 326 223 [some (.ref 1000000000), some (.ref 0), some (.ref 214), some (zi_i i)] [] g zw_Q := by
  obtain ⟨I, R0, R1, R2, R3, R4, R5, R6, R7, R8, R9, R10, R11, R12, R13, R14, R15, R16, R17, R18, R19, R20, R21⟩ := R
  refine zi_aload_n (pc' := 224) rfl rfl rfl ?_
  refine zi_aload_n (pc' := 225) rfl rfl rfl ?_
  refine zi_iload_n (pc' := 226) rfl rfl rfl ?_
  refine zi_iconst (pc' := 227) rfl rfl ?_
  refine zi_iadd (pc' := 228) rfl rfl ?_
  refine zi_xald (pc' := 229) rfl rfl hL ⟨by omega, by omega⟩ ?_
  refine zi_aload_n (pc' := 230) rfl rfl rfl ?_
  refine zi_iload_n (pc' := 231) rfl rfl rfl ?_
  refine zi_iconst (pc' := 232) rfl rfl ?_
  refine zi_iadd (pc' := 233) rfl rfl ?_
  refine zi_xald (pc' := 234) rfl rfl hL ⟨by omega, by omega⟩ ?_
  refine zi_aload_n (pc' := 235) rfl rfl rfl ?_
  refine zi_iload_n (pc' := 236) rfl rfl rfl ?_
  refine zi_iconst (pc' := 237) rfl rfl ?_
  refine zi_iadd (pc' := 238) rfl rfl ?_
  refine zi_xald (pc' := 239) rfl rfl hL ⟨by omega, by omega⟩ ?_
  refine zi_callV (d' := 2) (as := [_, _, _]) (pc' := 242) rfl rfl rfl rfl (by decide) (s_S_spout (Q := fun v g' => zk_I g' ∧ zk_fr fr_S_spout g g' ∧ ((-1) ≤ v ∧ v ≤ 9) ∧ (0 ≤ (zw_s E (i + 1)) ∧ (zw_s E (i + 1)) ≤ 5 ∧ 0 ≤ (zw_s E (i + 2)) ∧ (zw_s E (i + 2)) ≤ 3 ∧ 0 ≤ (zw_s E (i + 3)) ∧ (zw_s E (i + 3)) ≤ 99 ∧ g 2 8 < 10 → v = g 2 8 ∧ g' 2 8 = g 2 8 + 1) ∧ (¬ (0 ≤ (zw_s E (i + 1)) ∧ (zw_s E (i + 1)) ≤ 5 ∧ 0 ≤ (zw_s E (i + 2)) ∧ (zw_s E (i + 2)) ≤ 3 ∧ 0 ≤ (zw_s E (i + 3)) ∧ (zw_s E (i + 3)) ≤ 99 ∧ g 2 8 < 10) → v = -1 ∧ g' 2 8 = g 2 8) ∧ (¬ v = -1 → g' 91 1 = 0) ∧ (v = -1 → g' = g) ∧ (∀ k : Int, 0 ≤ k ∧ k < 10 → (¬ v = -1 ∧ k = g 2 8 → g' 5 k = (zw_s E (i + 3))) ∧ (¬ (¬ v = -1 ∧ k = g 2 8) → g' 5 k = g 5 k)) ∧ (∀ k : Int, 0 ≤ k ∧ k < 10 → (¬ v = -1 ∧ k = g 2 8 → g' 6 k = 0) ∧ (¬ (¬ v = -1 ∧ k = g 2 8) → g' 6 k = g 6 k)) ∧ (∀ k : Int, 0 ≤ k ∧ k < 10 → (¬ v = -1 ∧ k = g 2 8 → g' 7 k = 0) ∧ (¬ (¬ v = -1 ∧ k = g 2 8) → g' 7 k = g 7 k)) ∧ (∀ k : Int, 0 ≤ k ∧ k < 10 → (¬ v = -1 ∧ k = g 2 8 → g' 8 k = 0) ∧ (¬ (¬ v = -1 ∧ k = g 2 8) → g' 8 k = g 8 k)) ∧ (∀ k : Int, 0 ≤ k ∧ k < 10 → (¬ v = -1 ∧ k = g 2 8 → g' 3 k = (zw_s E (i + 1))) ∧ (¬ (¬ v = -1 ∧ k = g 2 8) → g' 3 k = g 3 k)) ∧ (∀ k : Int, 0 ≤ k ∧ k < 10 → (¬ v = -1 ∧ k = g 2 8 → g' 4 k = (zw_s E (i + 2))) ∧ (¬ (¬ v = -1 ∧ k = g 2 8) → g' 4 k = g 4 k))) (Nat.le_refl _) (k_S_spout I (zw_r _ _) (zw_r _ _) (zw_r _ _) (fun v g' I' F' h0 h1 h2 h3 h4 h5 h6 h7 h8 h9 h10 => ⟨I', F', h0, h1, h2, h3, h4, h5, h6, h7, h8, h9, h10⟩))) (zi_ki (fun v1 g1 h1 => ?_))
  obtain ⟨I1, F1, p1_0, p1_1, p1_2, p1_3, p1_4, p1_5, p1_6, p1_7, p1_8, p1_9, p1_10⟩ := h1
  have c1_0_2 : g1 0 2 = g 0 2 := F1 0 2 (by first | (simp [fr_S_spout]; done) | (unfold fr_S_spout; omega))
  have c1_0_8 : g1 0 8 = g 0 8 := F1 0 8 (by first | (simp [fr_S_spout]; done) | (unfold fr_S_spout; omega))
  have c1_2_11 : g1 2 11 = g 2 11 := F1 2 11 (by first | (simp [fr_S_spout]; done) | (unfold fr_S_spout; omega))
  have c1_47_8 : g1 47 8 = g 47 8 := F1 47 8 (by first | (simp [fr_S_spout]; done) | (unfold fr_S_spout; omega))
  have c1_47_11 : g1 47 11 = g 47 11 := F1 47 11 (by first | (simp [fr_S_spout]; done) | (unfold fr_S_spout; omega))
  have c1_214_6 : g1 214 6 = g 214 6 := F1 214 6 (by first | (simp [fr_S_spout]; done) | (unfold fr_S_spout; omega))
  have c1_214_7 : g1 214 7 = g 214 7 := F1 214 7 (by first | (simp [fr_S_spout]; done) | (unfold fr_S_spout; omega))
  have c1_214_13 : g1 214 13 = g 214 13 := F1 214 13 (by first | (simp [fr_S_spout]; done) | (unfold fr_S_spout; omega))
  have c1_214_62 : g1 214 62 = g 214 62 := F1 214 62 (by first | (simp [fr_S_spout]; done) | (unfold fr_S_spout; omega))
  have c1_250_264 : g1 250 264 = g 250 264 := F1 250 264 (by first | (simp [fr_S_spout]; done) | (unfold fr_S_spout; omega))
  have c1_250_265 : g1 250 265 = g 250 265 := F1 250 265 (by first | (simp [fr_S_spout]; done) | (unfold fr_S_spout; omega))
  have Z1 : zP g1 := by
    by_cases hv : v1 = -1
    · rw [p1_4 hv]; exact R21
    · exact zP_0 (p1_3 hv)
  refine zi_pop (pc' := 243) rfl rfl rfl ?_
  refine zi_aload_n (pc' := 244) rfl rfl rfl ?_
  refine zi_aload_n (pc' := 245) rfl rfl rfl ?_
  refine zi_iload_n (pc' := 246) rfl rfl rfl ?_
  refine zi_iconst (pc' := 247) rfl rfl ?_
  refine zi_iadd (pc' := 248) rfl rfl ?_
  refine zi_xald (pc' := 249) rfl rfl hL ⟨by omega, by omega⟩ ?_
  refine zi_aload_n (pc' := 250) rfl rfl rfl ?_
  refine zi_iload_n (pc' := 251) rfl rfl rfl ?_
  refine zi_iconst (pc' := 252) rfl rfl ?_
  refine zi_iadd (pc' := 253) rfl rfl ?_
  refine zi_xald (pc' := 254) rfl rfl hL ⟨by omega, by omega⟩ ?_
  refine zi_aload_n (pc' := 255) rfl rfl rfl ?_
  refine zi_iload_n (pc' := 256) rfl rfl rfl ?_
  refine zi_iconst (pc' := 257) rfl rfl ?_
  refine zi_iadd (pc' := 258) rfl rfl ?_
  refine zi_xald (pc' := 259) rfl rfl hL ⟨by omega, by omega⟩ ?_
  refine zi_callV (d' := 2) (as := [_, _, _]) (pc' := 262) rfl rfl rfl rfl (by decide) (s_M_spout (Q := fun v g' => zk_I g' ∧ zk_fr fr_M_spout g1 g' ∧ ((-1) ≤ v ∧ v ≤ 9) ∧ (0 ≤ (zw_s E (i + 1)) ∧ (zw_s E (i + 1)) ≤ 5 ∧ 0 ≤ (zw_s E (i + 2)) ∧ (zw_s E (i + 2)) ≤ 3 ∧ 0 ≤ (zw_s E (i + 3)) ∧ (zw_s E (i + 3)) ≤ 99 ∧ g1 214 6 < 10 → v = g1 214 6 ∧ g' 214 6 = g1 214 6 + 1) ∧ (¬ (0 ≤ (zw_s E (i + 1)) ∧ (zw_s E (i + 1)) ≤ 5 ∧ 0 ≤ (zw_s E (i + 2)) ∧ (zw_s E (i + 2)) ≤ 3 ∧ 0 ≤ (zw_s E (i + 3)) ∧ (zw_s E (i + 3)) ≤ 99 ∧ g1 214 6 < 10) → v = -1 ∧ g' 214 6 = g1 214 6) ∧ (∀ k : Int, 0 ≤ k ∧ k < 10 → (¬ v = -1 ∧ k = g1 214 6 → g' 220 k = (zw_s E (i + 3))) ∧ (¬ (¬ v = -1 ∧ k = g1 214 6) → g' 220 k = g1 220 k)) ∧ (∀ k : Int, 0 ≤ k ∧ k < 264 → (¬ v = -1 ∧ k = 6 + g1 214 6 → g' 215 k = 0) ∧ (¬ v = -1 ∧ k = 16 + g1 214 6 → g' 215 k = 0) ∧ (¬ v = -1 ∧ k = 26 + g1 214 6 → g' 215 k = 0) ∧ (¬ (¬ v = -1 ∧ (k = 6 + g1 214 6 ∨ k = 16 + g1 214 6 ∨ k = 26 + g1 214 6)) → g' 215 k = g1 215 k)) ∧ (¬ v = -1 → g' 214 3 = 0) ∧ (v = -1 → g' 214 3 = g1 214 3) ∧ (∀ k : Int, 0 ≤ k ∧ k < 10 → (¬ v = -1 ∧ k = g1 214 6 → g' 218 k = (zw_s E (i + 1))) ∧ (¬ (¬ v = -1 ∧ k = g1 214 6) → g' 218 k = g1 218 k)) ∧ (∀ k : Int, 0 ≤ k ∧ k < 10 → (¬ v = -1 ∧ k = g1 214 6 → g' 219 k = (zw_s E (i + 2))) ∧ (¬ (¬ v = -1 ∧ k = g1 214 6) → g' 219 k = g1 219 k))) (Nat.le_refl _) (k_M_spout I1 (zw_r _ _) (zw_r _ _) (zw_r _ _) (fun v g' I' F' h0 h1 h2 h3 h4 h5 h6 h7 h8 => ⟨I', F', h0, h1, h2, h3, h4, h5, h6, h7, h8⟩))) (zi_ki (fun v2 g2 h2 => ?_))
  obtain ⟨I2, F2, p2_0, p2_1, p2_2, p2_3, p2_4, p2_5, p2_6, p2_7, p2_8⟩ := h2
  have c2_0_2 : g2 0 2 = g1 0 2 := F2 0 2 (by first | (simp [fr_M_spout]; done) | (unfold fr_M_spout; omega))
  have c2_0_8 : g2 0 8 = g1 0 8 := F2 0 8 (by first | (simp [fr_M_spout]; done) | (unfold fr_M_spout; omega))
  have c2_2_8 : g2 2 8 = g1 2 8 := F2 2 8 (by first | (simp [fr_M_spout]; done) | (unfold fr_M_spout; omega))
  have c2_2_11 : g2 2 11 = g1 2 11 := F2 2 11 (by first | (simp [fr_M_spout]; done) | (unfold fr_M_spout; omega))
  have c2_47_8 : g2 47 8 = g1 47 8 := F2 47 8 (by first | (simp [fr_M_spout]; done) | (unfold fr_M_spout; omega))
  have c2_47_11 : g2 47 11 = g1 47 11 := F2 47 11 (by first | (simp [fr_M_spout]; done) | (unfold fr_M_spout; omega))
  have c2_214_7 : g2 214 7 = g1 214 7 := F2 214 7 (by first | (simp [fr_M_spout]; done) | (unfold fr_M_spout; omega))
  have c2_214_13 : g2 214 13 = g1 214 13 := F2 214 13 (by first | (simp [fr_M_spout]; done) | (unfold fr_M_spout; omega))
  have c2_214_62 : g2 214 62 = g1 214 62 := F2 214 62 (by first | (simp [fr_M_spout]; done) | (unfold fr_M_spout; omega))
  have c2_250_264 : g2 250 264 = g1 250 264 := F2 250 264 (by first | (simp [fr_M_spout]; done) | (unfold fr_M_spout; omega))
  have c2_250_265 : g2 250 265 = g1 250 265 := F2 250 265 (by first | (simp [fr_M_spout]; done) | (unfold fr_M_spout; omega))
  have Z2 : zP g2 := zP_eq (fun a i hc => F2 a i (zpf_M_spout hc)) Z1
  have zb_ : zBD g2 := zBD_spout (S := 0) R11 (by omega) (I1.1 214 6) p1_3 p1_4 p2_4 p2_5 p2_6 (by omega) (by omega) (fun a i h => F1 a i (fun w => by unfold fr_S_spout at w; omega)) (fun a i h => F2 a i (fun w => by unfold fr_M_spout at w; omega)) (fun a i h => by (try unfold zFsx at h); (try unfold zFt at h); exact (F2 a i (fun w => by unfold fr_M_spout at w; omega)).trans (F1 a i (fun w => by unfold fr_S_spout at w; omega)))
  have zf2_ : zFD g2 := zFD_spout R20 R3 (by omega) (I.1 2 8).1 (fun cc => by have hb : g1 2 8 ≤ 10 := (I1.1 2 8).2; omega) p1_3 p1_4 p1_6 p1_7 p1_8 p2_4 (fun a i h => F1 a i (fun w => by unfold fr_S_spout at w; omega)) (fun a i h => F2 a i (fun w => by unfold fr_M_spout at w; omega)) (fun a i h => by (exact (F2 a i (fun w => by unfold fr_M_spout at w; omega)).trans (F1 a i (fun w => by unfold fr_S_spout at w; omega)))) (fun a i h => by unfold zFe1 at h; unfold zFs1 at h; (exact (F2 a i (fun w => by unfold fr_M_spout at w; omega)).trans (F1 a i (fun w => by unfold fr_S_spout at w; omega))))
  refine zi_pop (pc' := 263) rfl rfl rfl ?_
  refine zi_goto (x := 1356) rfl ?_
  exact k _ ⟨I2, (by rw [c2_0_2, c1_0_2, c2_214_62, c1_214_62]; exact R0), (by rw [c2_0_8, c1_0_8, c2_214_13, c1_214_13]; exact R1), (funext fun k => by rw [F2 190 k (by first | (simp [fr_M_spout]; done) | (unfold fr_M_spout; omega)), F1 190 k (by first | (simp [fr_S_spout]; done) | (unfold fr_S_spout; omega)), F2 222 k (by first | (simp [fr_M_spout]; done) | (unfold fr_M_spout; omega)), F1 222 k (by first | (simp [fr_S_spout]; done) | (unfold fr_S_spout; omega))]; exact congrFun R2 k), by omega, (fun q => by rw [c2_47_8, c1_47_8, c2_250_264, c1_250_264]; exact R4 (by rw [c2_0_2, c1_0_2] at q; exact q)), (by rw [c2_2_11, c1_2_11, c2_214_7, c1_214_7]; exact R5), (fun q => by rw [c2_47_11, c1_47_11, c2_250_265, c1_250_265]; exact R6 (by rw [c2_0_2, c1_0_2] at q; exact q)), (zXw_n R7 (by rw [F2 19 5 (by first | (simp [fr_M_spout]; done) | (unfold fr_M_spout; omega)), F1 19 5 (by first | (simp [fr_S_spout]; done) | (unfold fr_S_spout; omega))]) (by rw [F2 214 37 (by first | (simp [fr_M_spout]; done) | (unfold fr_M_spout; omega)), F1 214 37 (by first | (simp [fr_S_spout]; done) | (unfold fr_S_spout; omega))]) (fun k => by rw [F2 30 k (by first | (simp [fr_M_spout]; done) | (unfold fr_M_spout; omega)), F1 30 k (by first | (simp [fr_S_spout]; done) | (unfold fr_S_spout; omega))]) (fun k => by rw [F2 31 k (by first | (simp [fr_M_spout]; done) | (unfold fr_M_spout; omega)), F1 31 k (by first | (simp [fr_S_spout]; done) | (unfold fr_S_spout; omega))]) (fun k _ => by rw [F2 233 k (by first | (simp [fr_M_spout]; done) | (unfold fr_M_spout; omega)), F1 233 k (by first | (simp [fr_S_spout]; done) | (unfold fr_S_spout; omega))]) (show 0 ≤ g 19 5 ∧ g 19 5 ≤ 16 from I.1 19 5).2), (fun q => zXwk_n (R8 (by omega)) (by rw [F2 64 5 (by first | (simp [fr_M_spout]; done) | (unfold fr_M_spout; omega)), F1 64 5 (by first | (simp [fr_S_spout]; done) | (unfold fr_S_spout; omega))]) (fun k => by rw [F2 75 k (by first | (simp [fr_M_spout]; done) | (unfold fr_M_spout; omega)), F1 75 k (by first | (simp [fr_S_spout]; done) | (unfold fr_S_spout; omega))]) (fun k => by rw [F2 76 k (by first | (simp [fr_M_spout]; done) | (unfold fr_M_spout; omega)), F1 76 k (by first | (simp [fr_S_spout]; done) | (unfold fr_S_spout; omega))]) (fun k => by rw [F2 250 k (by first | (simp [fr_M_spout]; done) | (unfold fr_M_spout; omega)), F1 250 k (by first | (simp [fr_S_spout]; done) | (unfold fr_S_spout; omega))])), (zXg_n R9 (by rw [F2 19 2 (by first | (simp [fr_M_spout]; done) | (unfold fr_M_spout; omega)), F1 19 2 (by first | (simp [fr_S_spout]; done) | (unfold fr_S_spout; omega))]) (by rw [F2 214 35 (by first | (simp [fr_M_spout]; done) | (unfold fr_M_spout; omega)), F1 214 35 (by first | (simp [fr_S_spout]; done) | (unfold fr_S_spout; omega))]) (fun k => by rw [F2 29 k (by first | (simp [fr_M_spout]; done) | (unfold fr_M_spout; omega)), F1 29 k (by first | (simp [fr_S_spout]; done) | (unfold fr_S_spout; omega))]) (fun k _ => by rw [F2 232 k (by first | (simp [fr_M_spout]; done) | (unfold fr_M_spout; omega)), F1 232 k (by first | (simp [fr_S_spout]; done) | (unfold fr_S_spout; omega))])), (fun q => zXgk_n (R10 (by omega)) (by rw [F2 64 2 (by first | (simp [fr_M_spout]; done) | (unfold fr_M_spout; omega)), F1 64 2 (by first | (simp [fr_S_spout]; done) | (unfold fr_S_spout; omega))]) (fun k => by rw [F2 74 k (by first | (simp [fr_M_spout]; done) | (unfold fr_M_spout; omega)), F1 74 k (by first | (simp [fr_S_spout]; done) | (unfold fr_S_spout; omega))]) (fun k => by rw [F2 250 k (by first | (simp [fr_M_spout]; done) | (unfold fr_M_spout; omega)), F1 250 k (by first | (simp [fr_S_spout]; done) | (unfold fr_S_spout; omega))])), zb_, (fun k k0 k1 => by have a5 := R12 k k0 k1; try dsimp only at a5; try dsimp only; try simp only [Int.zero_add] at a5; try simp only [Int.zero_add]; have b1 := p1_5 k ⟨k0, k1⟩; have d1 := F1 220 k (by first | (simp [fr_S_spout]; done) | (unfold fr_S_spout; omega)); have b2 := p2_3 k ⟨k0, k1⟩; have d2 := F2 5 k (by first | (simp [fr_M_spout]; done) | (unfold fr_M_spout; omega)); omega), (fun q => zRw_nk (fun k => by rw [F2 50 k (by first | (simp [fr_M_spout]; done) | (unfold fr_M_spout; omega)), F1 50 k (by first | (simp [fr_S_spout]; done) | (unfold fr_S_spout; omega))]) (fun k => by rw [F2 250 k (by first | (simp [fr_M_spout]; done) | (unfold fr_M_spout; omega)), F1 250 k (by first | (simp [fr_S_spout]; done) | (unfold fr_S_spout; omega))]) (R13 (by omega))), (fun k k0 k1 => by have a5 := R14 k k0 k1; try dsimp only at a5; try dsimp only; try simp only [Int.zero_add] at a5; try simp only [Int.zero_add]; have b1 := p1_9 k ⟨k0, k1⟩; have d1 := F1 218 k (by first | (simp [fr_S_spout]; done) | (unfold fr_S_spout; omega)); have b2 := p2_7 k ⟨k0, k1⟩; have d2 := F2 3 k (by first | (simp [fr_M_spout]; done) | (unfold fr_M_spout; omega)); omega), (fun q => zRw_nk (fun k => by rw [F2 48 k (by first | (simp [fr_M_spout]; done) | (unfold fr_M_spout; omega)), F1 48 k (by first | (simp [fr_S_spout]; done) | (unfold fr_S_spout; omega))]) (fun k => by rw [F2 250 k (by first | (simp [fr_M_spout]; done) | (unfold fr_M_spout; omega)), F1 250 k (by first | (simp [fr_S_spout]; done) | (unfold fr_S_spout; omega))]) (R15 (by omega))), (fun k k0 k1 => by have a5 := R16 k k0 k1; try dsimp only at a5; try dsimp only; try simp only [Int.zero_add] at a5; try simp only [Int.zero_add]; have b1 := p1_10 k ⟨k0, k1⟩; have d1 := F1 219 k (by first | (simp [fr_S_spout]; done) | (unfold fr_S_spout; omega)); have b2 := p2_8 k ⟨k0, k1⟩; have d2 := F2 4 k (by first | (simp [fr_M_spout]; done) | (unfold fr_M_spout; omega)); omega), (fun q => zRw_nk (fun k => by rw [F2 49 k (by first | (simp [fr_M_spout]; done) | (unfold fr_M_spout; omega)), F1 49 k (by first | (simp [fr_S_spout]; done) | (unfold fr_S_spout; omega))]) (fun k => by rw [F2 250 k (by first | (simp [fr_M_spout]; done) | (unfold fr_M_spout; omega)), F1 250 k (by first | (simp [fr_S_spout]; done) | (unfold fr_S_spout; omega))]) (R17 (by omega))), (zLW_n R18 (show 0 ≤ g 224 0 ∧ g 224 0 ≤ 16 from I.1 224 0).2 (fun a i h => (F2 a i (zbg_M_spoutFlw h)).trans (F1 a i (zbg_S_spoutFlw h)))), (fun q => zLWk_n (R19 (by omega)) (fun a i h => (F2 a i (zbg_M_spoutFlk h)).trans (F1 a i (zbg_S_spoutFlk h)))), zf2_, Z2⟩
