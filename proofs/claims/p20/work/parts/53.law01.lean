-- by program (wip/gen/mklaw.py)
theorem zpf_M_state {a : Nat} {i : Int} (hc : zPc a i) : ¬ fr_M_state a i := fun w => by
  have ha := zPc_le hc
  unfold fr_M_state at w
  clear hc
  omega
set_option maxRecDepth 100000 in
set_option maxHeartbeats 4000000 in
theorem zw_c0 {E : sx_E} {i : Int} {g : zi_M} (hL : sx_Ln E ≤ 3072) (h0 : 0 ≤ i) (h6 : i + 6 ≤ ((sx_Ln E : Nat) : Int)) (R : zw_R g) (k : ∀ g' : zi_M, zw_R g' → zi_W E 420 326 1356 [some (.ref 1000000000), some (.ref 0), some (.ref 214), some (zi_i i)] [] g' zw_Q) : zi_W E 420 326 200 [some (.ref 1000000000), some (.ref 0), some (.ref 214), some (zi_i i)] [] g zw_Q := by
  obtain ⟨I, R0, R1, R2, R3, R4, R5, R6, R7, R8, R9, R10, R11, R12⟩ := R
  refine zi_aload_n (pc' := 201) rfl rfl rfl ?_
  refine zi_aload_n (pc' := 202) rfl rfl rfl ?_
  refine zi_iload_n (pc' := 203) rfl rfl rfl ?_
  refine zi_iconst (pc' := 204) rfl rfl ?_
  refine zi_iadd (pc' := 205) rfl rfl ?_
  refine zi_xald (pc' := 206) rfl rfl hL ⟨by omega, by omega⟩ ?_
  refine zi_callV (d' := 2) (as := [_]) (pc' := 209) rfl rfl rfl rfl (by decide) (s_S_state (Q := fun v g' => zk_I g' ∧ zk_fr fr_S_state g g' ∧ ((-2147483648) ≤ v ∧ v ≤ 2147483647) ∧ (g' 91 1 = 0) ∧ (g' 2 18 = (zw_s E (i + 1)))) (Nat.le_refl _) (k_S_state I (zw_r _ _) (fun v g' I' F' h0 h1 h2 => ⟨I', F', h0, h1, h2⟩))) (zi_ki (fun v1 g1 h1 => ?_))
  obtain ⟨I1, F1, p1_0, p1_1, p1_2⟩ := h1
  have c1_0_2 : g1 0 2 = g 0 2 := F1 0 2 (by first | (simp [fr_S_state]; done) | (unfold fr_S_state; omega))
  have c1_0_8 : g1 0 8 = g 0 8 := F1 0 8 (by first | (simp [fr_S_state]; done) | (unfold fr_S_state; omega))
  have c1_2_8 : g1 2 8 = g 2 8 := F1 2 8 (by first | (simp [fr_S_state]; done) | (unfold fr_S_state; omega))
  have c1_2_11 : g1 2 11 = g 2 11 := F1 2 11 (by first | (simp [fr_S_state]; done) | (unfold fr_S_state; omega))
  have c1_47_8 : g1 47 8 = g 47 8 := F1 47 8 (by first | (simp [fr_S_state]; done) | (unfold fr_S_state; omega))
  have c1_47_11 : g1 47 11 = g 47 11 := F1 47 11 (by first | (simp [fr_S_state]; done) | (unfold fr_S_state; omega))
  have c1_214_6 : g1 214 6 = g 214 6 := F1 214 6 (by first | (simp [fr_S_state]; done) | (unfold fr_S_state; omega))
  have c1_214_7 : g1 214 7 = g 214 7 := F1 214 7 (by first | (simp [fr_S_state]; done) | (unfold fr_S_state; omega))
  have c1_214_13 : g1 214 13 = g 214 13 := F1 214 13 (by first | (simp [fr_S_state]; done) | (unfold fr_S_state; omega))
  have c1_214_62 : g1 214 62 = g 214 62 := F1 214 62 (by first | (simp [fr_S_state]; done) | (unfold fr_S_state; omega))
  have c1_250_264 : g1 250 264 = g 250 264 := F1 250 264 (by first | (simp [fr_S_state]; done) | (unfold fr_S_state; omega))
  have c1_250_265 : g1 250 265 = g 250 265 := F1 250 265 (by first | (simp [fr_S_state]; done) | (unfold fr_S_state; omega))
  have Z1 : zP g1 := zP_0 p1_1
  refine zi_pop (pc' := 210) rfl rfl rfl ?_
  refine zi_aload_n (pc' := 211) rfl rfl rfl ?_
  refine zi_aload_n (pc' := 212) rfl rfl rfl ?_
  refine zi_iload_n (pc' := 213) rfl rfl rfl ?_
  refine zi_iconst (pc' := 214) rfl rfl ?_
  refine zi_iadd (pc' := 215) rfl rfl ?_
  refine zi_xald (pc' := 216) rfl rfl hL ⟨by omega, by omega⟩ ?_
  refine zi_callV (d' := 1) (as := [_]) (pc' := 219) rfl rfl rfl rfl (by decide) (s_M_state (Q := fun v g' => zk_I g' ∧ zk_fr fr_M_state g1 g' ∧ ((-2147483648) ≤ v ∧ v ≤ 2147483647) ∧ (∀ k : Int, 0 ≤ k ∧ k < 264 → (k = 1 → g' 215 k = (zw_s E (i + 1))) ∧ (¬ k = 1 → g' 215 k = g1 215 k)) ∧ (g' 214 3 = 0)) (Nat.le_refl _) (k_M_state I1 (zw_r _ _) (fun v g' I' F' h0 h1 h2 => ⟨I', F', h0, h1, h2⟩))) (zi_ki (fun v2 g2 h2 => ?_))
  obtain ⟨I2, F2, p2_0, p2_1, p2_2⟩ := h2
  have c2_0_2 : g2 0 2 = g1 0 2 := F2 0 2 (by first | (simp [fr_M_state]; done) | (unfold fr_M_state; omega))
  have c2_0_8 : g2 0 8 = g1 0 8 := F2 0 8 (by first | (simp [fr_M_state]; done) | (unfold fr_M_state; omega))
  have c2_2_8 : g2 2 8 = g1 2 8 := F2 2 8 (by first | (simp [fr_M_state]; done) | (unfold fr_M_state; omega))
  have c2_2_11 : g2 2 11 = g1 2 11 := F2 2 11 (by first | (simp [fr_M_state]; done) | (unfold fr_M_state; omega))
  have c2_47_8 : g2 47 8 = g1 47 8 := F2 47 8 (by first | (simp [fr_M_state]; done) | (unfold fr_M_state; omega))
  have c2_47_11 : g2 47 11 = g1 47 11 := F2 47 11 (by first | (simp [fr_M_state]; done) | (unfold fr_M_state; omega))
  have c2_214_6 : g2 214 6 = g1 214 6 := F2 214 6 (by first | (simp [fr_M_state]; done) | (unfold fr_M_state; omega))
  have c2_214_7 : g2 214 7 = g1 214 7 := F2 214 7 (by first | (simp [fr_M_state]; done) | (unfold fr_M_state; omega))
  have c2_214_13 : g2 214 13 = g1 214 13 := F2 214 13 (by first | (simp [fr_M_state]; done) | (unfold fr_M_state; omega))
  have c2_214_62 : g2 214 62 = g1 214 62 := F2 214 62 (by first | (simp [fr_M_state]; done) | (unfold fr_M_state; omega))
  have c2_250_264 : g2 250 264 = g1 250 264 := F2 250 264 (by first | (simp [fr_M_state]; done) | (unfold fr_M_state; omega))
  have c2_250_265 : g2 250 265 = g1 250 265 := F2 250 265 (by first | (simp [fr_M_state]; done) | (unfold fr_M_state; omega))
  have Z2 : zP g2 := zP_eq (fun a i hc => F2 a i (zpf_M_state hc)) Z1
  have zb_ : zBD g2 := zBD_state R11 p1_1 p2_1 p2_2 (fun a i h => F1 a i (fun w => by unfold fr_S_state at w; omega)) (fun a i h => F2 a i (fun w => by unfold fr_M_state at w; omega)) (fun a i h => by (try unfold zFsx at h); (try unfold zFt at h); exact (F2 a i (fun w => by unfold fr_M_state at w; omega)).trans (F1 a i (fun w => by unfold fr_S_state at w; omega)))
  refine zi_pop (pc' := 220) rfl rfl rfl ?_
  refine zi_goto (x := 1356) rfl ?_
  exact k _ ⟨I2, (by rw [c2_0_2, c1_0_2, c2_214_62, c1_214_62]; exact R0), (by rw [c2_0_8, c1_0_8, c2_214_13, c1_214_13]; exact R1), (funext fun k => by rw [F2 190 k (by first | (simp [fr_M_state]; done) | (unfold fr_M_state; omega)), F1 190 k (by first | (simp [fr_S_state]; done) | (unfold fr_S_state; omega)), F2 222 k (by first | (simp [fr_M_state]; done) | (unfold fr_M_state; omega)), F1 222 k (by first | (simp [fr_S_state]; done) | (unfold fr_S_state; omega))]; exact congrFun R2 k), (by rw [c2_2_8, c1_2_8, c2_214_6, c1_214_6]; exact R3), (fun q => by rw [c2_47_8, c1_47_8, c2_250_264, c1_250_264]; exact R4 (by rw [c2_0_2, c1_0_2] at q; exact q)), (by rw [c2_2_11, c1_2_11, c2_214_7, c1_214_7]; exact R5), (fun q => by rw [c2_47_11, c1_47_11, c2_250_265, c1_250_265]; exact R6 (by rw [c2_0_2, c1_0_2] at q; exact q)), (zXw_n R7 (by rw [F2 19 5 (by first | (simp [fr_M_state]; done) | (unfold fr_M_state; omega)), F1 19 5 (by first | (simp [fr_S_state]; done) | (unfold fr_S_state; omega))]) (by rw [F2 214 37 (by first | (simp [fr_M_state]; done) | (unfold fr_M_state; omega)), F1 214 37 (by first | (simp [fr_S_state]; done) | (unfold fr_S_state; omega))]) (fun k => by rw [F2 30 k (by first | (simp [fr_M_state]; done) | (unfold fr_M_state; omega)), F1 30 k (by first | (simp [fr_S_state]; done) | (unfold fr_S_state; omega))]) (fun k => by rw [F2 31 k (by first | (simp [fr_M_state]; done) | (unfold fr_M_state; omega)), F1 31 k (by first | (simp [fr_S_state]; done) | (unfold fr_S_state; omega))]) (fun k _ => by rw [F2 233 k (by first | (simp [fr_M_state]; done) | (unfold fr_M_state; omega)), F1 233 k (by first | (simp [fr_S_state]; done) | (unfold fr_S_state; omega))]) (show 0 ≤ g 19 5 ∧ g 19 5 ≤ 16 from I.1 19 5).2), (fun q => zXwk_n (R8 (by omega)) (by rw [F2 64 5 (by first | (simp [fr_M_state]; done) | (unfold fr_M_state; omega)), F1 64 5 (by first | (simp [fr_S_state]; done) | (unfold fr_S_state; omega))]) (fun k => by rw [F2 75 k (by first | (simp [fr_M_state]; done) | (unfold fr_M_state; omega)), F1 75 k (by first | (simp [fr_S_state]; done) | (unfold fr_S_state; omega))]) (fun k => by rw [F2 76 k (by first | (simp [fr_M_state]; done) | (unfold fr_M_state; omega)), F1 76 k (by first | (simp [fr_S_state]; done) | (unfold fr_S_state; omega))]) (fun k => by rw [F2 250 k (by first | (simp [fr_M_state]; done) | (unfold fr_M_state; omega)), F1 250 k (by first | (simp [fr_S_state]; done) | (unfold fr_S_state; omega))])), (zXg_n R9 (by rw [F2 19 2 (by first | (simp [fr_M_state]; done) | (unfold fr_M_state; omega)), F1 19 2 (by first | (simp [fr_S_state]; done) | (unfold fr_S_state; omega))]) (by rw [F2 214 35 (by first | (simp [fr_M_state]; done) | (unfold fr_M_state; omega)), F1 214 35 (by first | (simp [fr_S_state]; done) | (unfold fr_S_state; omega))]) (fun k => by rw [F2 29 k (by first | (simp [fr_M_state]; done) | (unfold fr_M_state; omega)), F1 29 k (by first | (simp [fr_S_state]; done) | (unfold fr_S_state; omega))]) (fun k _ => by rw [F2 232 k (by first | (simp [fr_M_state]; done) | (unfold fr_M_state; omega)), F1 232 k (by first | (simp [fr_S_state]; done) | (unfold fr_S_state; omega))])), (fun q => zXgk_n (R10 (by omega)) (by rw [F2 64 2 (by first | (simp [fr_M_state]; done) | (unfold fr_M_state; omega)), F1 64 2 (by first | (simp [fr_S_state]; done) | (unfold fr_S_state; omega))]) (fun k => by rw [F2 74 k (by first | (simp [fr_M_state]; done) | (unfold fr_M_state; omega)), F1 74 k (by first | (simp [fr_S_state]; done) | (unfold fr_S_state; omega))]) (fun k => by rw [F2 250 k (by first | (simp [fr_M_state]; done) | (unfold fr_M_state; omega)), F1 250 k (by first | (simp [fr_S_state]; done) | (unfold fr_S_state; omega))])), zb_, Z2⟩
theorem zpf_M_spout {a : Nat} {i : Int} (hc : zPc a i) : ¬ fr_M_spout a i := fun w => by
  have ha := zPc_le hc
  unfold fr_M_spout at w
  clear hc
  omega
set_option maxRecDepth 100000 in
set_option maxHeartbeats 4000000 in
theorem zw_c1 {E : sx_E} {i : Int} {g : zi_M} (hL : sx_Ln E ≤ 3072) (h0 : 0 ≤ i) (h6 : i + 6 ≤ ((sx_Ln E : Nat) : Int)) (R : zw_R g) (k : ∀ g' : zi_M, zw_R g' → zi_W E 420 326 1356 [some (.ref 1000000000), some (.ref 0), some (.ref 214), some (zi_i i)] [] g' zw_Q) : zi_W E 420 326 223 [some (.ref 1000000000), some (.ref 0), some (.ref 214), some (zi_i i)] [] g zw_Q := by
  obtain ⟨I, R0, R1, R2, R3, R4, R5, R6, R7, R8, R9, R10, R11, R12⟩ := R
  refine zi_aload_n (pc' := 224) rfl rfl rfl ?_
  refine zi_aload_n (pc' := 225) rfl rfl rfl ?_
  refine zi_iload_n (pc' := 226) rfl rfl rfl ?_
  refine zi_iconst (pc' := 227) rfl rfl ?_
  refine zi_iadd (pc' := 228) rfl rfl ?_
  refine zi_xald (pc' := 229) rfl rfl hL ⟨by omega, by omega⟩ ?_
  refine zi_aload_n (pc' := 230) rfl rfl rfl ?_
  refine zi_iload_n (pc' := 231) rfl rfl rfl ?_
  refine zi_iconst (pc' := 232) rfl rfl ?_
  refine zi_iadd (pc' := 233) rfl rfl ?_
  refine zi_xald (pc' := 234) rfl rfl hL ⟨by omega, by omega⟩ ?_
  refine zi_aload_n (pc' := 235) rfl rfl rfl ?_
  refine zi_iload_n (pc' := 236) rfl rfl rfl ?_
  refine zi_iconst (pc' := 237) rfl rfl ?_
  refine zi_iadd (pc' := 238) rfl rfl ?_
  refine zi_xald (pc' := 239) rfl rfl hL ⟨by omega, by omega⟩ ?_
  refine zi_callV (d' := 2) (as := [_, _, _]) (pc' := 242) rfl rfl rfl rfl (by decide) (s_S_spout (Q := fun v g' => zk_I g' ∧ zk_fr fr_S_spout g g' ∧ ((-1) ≤ v ∧ v ≤ 9) ∧ (0 ≤ (zw_s E (i + 1)) ∧ (zw_s E (i + 1)) ≤ 5 ∧ 0 ≤ (zw_s E (i + 2)) ∧ (zw_s E (i + 2)) ≤ 3 ∧ 0 ≤ (zw_s E (i + 3)) ∧ (zw_s E (i + 3)) ≤ 99 ∧ g 2 8 < 10 → v = g 2 8 ∧ g' 2 8 = g 2 8 + 1) ∧ (¬ (0 ≤ (zw_s E (i + 1)) ∧ (zw_s E (i + 1)) ≤ 5 ∧ 0 ≤ (zw_s E (i + 2)) ∧ (zw_s E (i + 2)) ≤ 3 ∧ 0 ≤ (zw_s E (i + 3)) ∧ (zw_s E (i + 3)) ≤ 99 ∧ g 2 8 < 10) → v = -1 ∧ g' 2 8 = g 2 8) ∧ (¬ v = -1 → g' 91 1 = 0) ∧ (v = -1 → g' = g) ∧ (∀ k : Int, 0 ≤ k ∧ k < 10 → (¬ v = -1 ∧ k = g 2 8 → g' 5 k = (zw_s E (i + 3))) ∧ (¬ (¬ v = -1 ∧ k = g 2 8) → g' 5 k = g 5 k)) ∧ (∀ k : Int, 0 ≤ k ∧ k < 10 → (¬ v = -1 ∧ k = g 2 8 → g' 6 k = 0) ∧ (¬ (¬ v = -1 ∧ k = g 2 8) → g' 6 k = g 6 k)) ∧ (∀ k : Int, 0 ≤ k ∧ k < 10 → (¬ v = -1 ∧ k = g 2 8 → g' 7 k = 0) ∧ (¬ (¬ v = -1 ∧ k = g 2 8) → g' 7 k = g 7 k)) ∧ (∀ k : Int, 0 ≤ k ∧ k < 10 → (¬ v = -1 ∧ k = g 2 8 → g' 8 k = 0) ∧ (¬ (¬ v = -1 ∧ k = g 2 8) → g' 8 k = g 8 k))) (Nat.le_refl _) (k_S_spout I (zw_r _ _) (zw_r _ _) (zw_r _ _) (fun v g' I' F' h0 h1 h2 h3 h4 h5 h6 h7 h8 => ⟨I', F', h0, h1, h2, h3, h4, h5, h6, h7, h8⟩))) (zi_ki (fun v1 g1 h1 => ?_))
  obtain ⟨I1, F1, p1_0, p1_1, p1_2, p1_3, p1_4, p1_5, p1_6, p1_7, p1_8⟩ := h1
  have c1_0_2 : g1 0 2 = g 0 2 := F1 0 2 (by first | (simp [fr_S_spout]; done) | (unfold fr_S_spout; omega))
  have c1_0_8 : g1 0 8 = g 0 8 := F1 0 8 (by first | (simp [fr_S_spout]; done) | (unfold fr_S_spout; omega))
  have c1_2_11 : g1 2 11 = g 2 11 := F1 2 11 (by first | (simp [fr_S_spout]; done) | (unfold fr_S_spout; omega))
  have c1_47_8 : g1 47 8 = g 47 8 := F1 47 8 (by first | (simp [fr_S_spout]; done) | (unfold fr_S_spout; omega))
  have c1_47_11 : g1 47 11 = g 47 11 := F1 47 11 (by first | (simp [fr_S_spout]; done) | (unfold fr_S_spout; omega))
  have c1_214_6 : g1 214 6 = g 214 6 := F1 214 6 (by first | (simp [fr_S_spout]; done) | (unfold fr_S_spout; omega))
  have c1_214_7 : g1 214 7 = g 214 7 := F1 214 7 (by first | (simp [fr_S_spout]; done) | (unfold fr_S_spout; omega))
  have c1_214_13 : g1 214 13 = g 214 13 := F1 214 13 (by first | (simp [fr_S_spout]; done) | (unfold fr_S_spout; omega))
  have c1_214_62 : g1 214 62 = g 214 62 := F1 214 62 (by first | (simp [fr_S_spout]; done) | (unfold fr_S_spout; omega))
  have c1_250_264 : g1 250 264 = g 250 264 := F1 250 264 (by first | (simp [fr_S_spout]; done) | (unfold fr_S_spout; omega))
  have c1_250_265 : g1 250 265 = g 250 265 := F1 250 265 (by first | (simp [fr_S_spout]; done) | (unfold fr_S_spout; omega))
  have Z1 : zP g1 := by
    by_cases hv : v1 = -1
    · rw [p1_4 hv]; exact R12
    · exact zP_0 (p1_3 hv)
  refine zi_pop (pc' := 243) rfl rfl rfl ?_
  refine zi_aload_n (pc' := 244) rfl rfl rfl ?_
  refine zi_aload_n (pc' := 245) rfl rfl rfl ?_
  refine zi_iload_n (pc' := 246) rfl rfl rfl ?_
  refine zi_iconst (pc' := 247) rfl rfl ?_
  refine zi_iadd (pc' := 248) rfl rfl ?_
  refine zi_xald (pc' := 249) rfl rfl hL ⟨by omega, by omega⟩ ?_
  refine zi_aload_n (pc' := 250) rfl rfl rfl ?_
  refine zi_iload_n (pc' := 251) rfl rfl rfl ?_
  refine zi_iconst (pc' := 252) rfl rfl ?_
  refine zi_iadd (pc' := 253) rfl rfl ?_
  refine zi_xald (pc' := 254) rfl rfl hL ⟨by omega, by omega⟩ ?_
  refine zi_aload_n (pc' := 255) rfl rfl rfl ?_
  refine zi_iload_n (pc' := 256) rfl rfl rfl ?_
  refine zi_iconst (pc' := 257) rfl rfl ?_
  refine zi_iadd (pc' := 258) rfl rfl ?_
  refine zi_xald (pc' := 259) rfl rfl hL ⟨by omega, by omega⟩ ?_
  refine zi_callV (d' := 2) (as := [_, _, _]) (pc' := 262) rfl rfl rfl rfl (by decide) (s_M_spout (Q := fun v g' => zk_I g' ∧ zk_fr fr_M_spout g1 g' ∧ ((-1) ≤ v ∧ v ≤ 9) ∧ (0 ≤ (zw_s E (i + 1)) ∧ (zw_s E (i + 1)) ≤ 5 ∧ 0 ≤ (zw_s E (i + 2)) ∧ (zw_s E (i + 2)) ≤ 3 ∧ 0 ≤ (zw_s E (i + 3)) ∧ (zw_s E (i + 3)) ≤ 99 ∧ g1 214 6 < 10 → v = g1 214 6 ∧ g' 214 6 = g1 214 6 + 1) ∧ (¬ (0 ≤ (zw_s E (i + 1)) ∧ (zw_s E (i + 1)) ≤ 5 ∧ 0 ≤ (zw_s E (i + 2)) ∧ (zw_s E (i + 2)) ≤ 3 ∧ 0 ≤ (zw_s E (i + 3)) ∧ (zw_s E (i + 3)) ≤ 99 ∧ g1 214 6 < 10) → v = -1 ∧ g' 214 6 = g1 214 6) ∧ (∀ k : Int, 0 ≤ k ∧ k < 10 → (¬ v = -1 ∧ k = g1 214 6 → g' 220 k = (zw_s E (i + 3))) ∧ (¬ (¬ v = -1 ∧ k = g1 214 6) → g' 220 k = g1 220 k)) ∧ (∀ k : Int, 0 ≤ k ∧ k < 264 → (¬ v = -1 ∧ k = 6 + g1 214 6 → g' 215 k = 0) ∧ (¬ v = -1 ∧ k = 16 + g1 214 6 → g' 215 k = 0) ∧ (¬ v = -1 ∧ k = 26 + g1 214 6 → g' 215 k = 0) ∧ (¬ (¬ v = -1 ∧ (k = 6 + g1 214 6 ∨ k = 16 + g1 214 6 ∨ k = 26 + g1 214 6)) → g' 215 k = g1 215 k)) ∧ (¬ v = -1 → g' 214 3 = 0) ∧ (v = -1 → g' 214 3 = g1 214 3)) (Nat.le_refl _) (k_M_spout I1 (zw_r _ _) (zw_r _ _) (zw_r _ _) (fun v g' I' F' h0 h1 h2 h3 h4 h5 h6 => ⟨I', F', h0, h1, h2, h3, h4, h5, h6⟩))) (zi_ki (fun v2 g2 h2 => ?_))
  obtain ⟨I2, F2, p2_0, p2_1, p2_2, p2_3, p2_4, p2_5, p2_6⟩ := h2
  have c2_0_2 : g2 0 2 = g1 0 2 := F2 0 2 (by first | (simp [fr_M_spout]; done) | (unfold fr_M_spout; omega))
  have c2_0_8 : g2 0 8 = g1 0 8 := F2 0 8 (by first | (simp [fr_M_spout]; done) | (unfold fr_M_spout; omega))
  have c2_2_8 : g2 2 8 = g1 2 8 := F2 2 8 (by first | (simp [fr_M_spout]; done) | (unfold fr_M_spout; omega))
  have c2_2_11 : g2 2 11 = g1 2 11 := F2 2 11 (by first | (simp [fr_M_spout]; done) | (unfold fr_M_spout; omega))
  have c2_47_8 : g2 47 8 = g1 47 8 := F2 47 8 (by first | (simp [fr_M_spout]; done) | (unfold fr_M_spout; omega))
  have c2_47_11 : g2 47 11 = g1 47 11 := F2 47 11 (by first | (simp [fr_M_spout]; done) | (unfold fr_M_spout; omega))
  have c2_214_7 : g2 214 7 = g1 214 7 := F2 214 7 (by first | (simp [fr_M_spout]; done) | (unfold fr_M_spout; omega))
  have c2_214_13 : g2 214 13 = g1 214 13 := F2 214 13 (by first | (simp [fr_M_spout]; done) | (unfold fr_M_spout; omega))
  have c2_214_62 : g2 214 62 = g1 214 62 := F2 214 62 (by first | (simp [fr_M_spout]; done) | (unfold fr_M_spout; omega))
  have c2_250_264 : g2 250 264 = g1 250 264 := F2 250 264 (by first | (simp [fr_M_spout]; done) | (unfold fr_M_spout; omega))
  have c2_250_265 : g2 250 265 = g1 250 265 := F2 250 265 (by first | (simp [fr_M_spout]; done) | (unfold fr_M_spout; omega))
  have Z2 : zP g2 := zP_eq (fun a i hc => F2 a i (zpf_M_spout hc)) Z1
  have zb_ : zBD g2 := zBD_spout (S := 0) R11 (by omega) (I1.1 214 6) p1_3 p1_4 p2_4 p2_5 p2_6 (by omega) (by omega) (fun a i h => F1 a i (fun w => by unfold fr_S_spout at w; omega)) (fun a i h => F2 a i (fun w => by unfold fr_M_spout at w; omega)) (fun a i h => by (try unfold zFsx at h); (try unfold zFt at h); exact (F2 a i (fun w => by unfold fr_M_spout at w; omega)).trans (F1 a i (fun w => by unfold fr_S_spout at w; omega)))
  refine zi_pop (pc' := 263) rfl rfl rfl ?_
  refine zi_goto (x := 1356) rfl ?_
  exact k _ ⟨I2, (by rw [c2_0_2, c1_0_2, c2_214_62, c1_214_62]; exact R0), (by rw [c2_0_8, c1_0_8, c2_214_13, c1_214_13]; exact R1), (funext fun k => by rw [F2 190 k (by first | (simp [fr_M_spout]; done) | (unfold fr_M_spout; omega)), F1 190 k (by first | (simp [fr_S_spout]; done) | (unfold fr_S_spout; omega)), F2 222 k (by first | (simp [fr_M_spout]; done) | (unfold fr_M_spout; omega)), F1 222 k (by first | (simp [fr_S_spout]; done) | (unfold fr_S_spout; omega))]; exact congrFun R2 k), by omega, (fun q => by rw [c2_47_8, c1_47_8, c2_250_264, c1_250_264]; exact R4 (by rw [c2_0_2, c1_0_2] at q; exact q)), (by rw [c2_2_11, c1_2_11, c2_214_7, c1_214_7]; exact R5), (fun q => by rw [c2_47_11, c1_47_11, c2_250_265, c1_250_265]; exact R6 (by rw [c2_0_2, c1_0_2] at q; exact q)), (zXw_n R7 (by rw [F2 19 5 (by first | (simp [fr_M_spout]; done) | (unfold fr_M_spout; omega)), F1 19 5 (by first | (simp [fr_S_spout]; done) | (unfold fr_S_spout; omega))]) (by rw [F2 214 37 (by first | (simp [fr_M_spout]; done) | (unfold fr_M_spout; omega)), F1 214 37 (by first | (simp [fr_S_spout]; done) | (unfold fr_S_spout; omega))]) (fun k => by rw [F2 30 k (by first | (simp [fr_M_spout]; done) | (unfold fr_M_spout; omega)), F1 30 k (by first | (simp [fr_S_spout]; done) | (unfold fr_S_spout; omega))]) (fun k => by rw [F2 31 k (by first | (simp [fr_M_spout]; done) | (unfold fr_M_spout; omega)), F1 31 k (by first | (simp [fr_S_spout]; done) | (unfold fr_S_spout; omega))]) (fun k _ => by rw [F2 233 k (by first | (simp [fr_M_spout]; done) | (unfold fr_M_spout; omega)), F1 233 k (by first | (simp [fr_S_spout]; done) | (unfold fr_S_spout; omega))]) (show 0 ≤ g 19 5 ∧ g 19 5 ≤ 16 from I.1 19 5).2), (fun q => zXwk_n (R8 (by omega)) (by rw [F2 64 5 (by first | (simp [fr_M_spout]; done) | (unfold fr_M_spout; omega)), F1 64 5 (by first | (simp [fr_S_spout]; done) | (unfold fr_S_spout; omega))]) (fun k => by rw [F2 75 k (by first | (simp [fr_M_spout]; done) | (unfold fr_M_spout; omega)), F1 75 k (by first | (simp [fr_S_spout]; done) | (unfold fr_S_spout; omega))]) (fun k => by rw [F2 76 k (by first | (simp [fr_M_spout]; done) | (unfold fr_M_spout; omega)), F1 76 k (by first | (simp [fr_S_spout]; done) | (unfold fr_S_spout; omega))]) (fun k => by rw [F2 250 k (by first | (simp [fr_M_spout]; done) | (unfold fr_M_spout; omega)), F1 250 k (by first | (simp [fr_S_spout]; done) | (unfold fr_S_spout; omega))])), (zXg_n R9 (by rw [F2 19 2 (by first | (simp [fr_M_spout]; done) | (unfold fr_M_spout; omega)), F1 19 2 (by first | (simp [fr_S_spout]; done) | (unfold fr_S_spout; omega))]) (by rw [F2 214 35 (by first | (simp [fr_M_spout]; done) | (unfold fr_M_spout; omega)), F1 214 35 (by first | (simp [fr_S_spout]; done) | (unfold fr_S_spout; omega))]) (fun k => by rw [F2 29 k (by first | (simp [fr_M_spout]; done) | (unfold fr_M_spout; omega)), F1 29 k (by first | (simp [fr_S_spout]; done) | (unfold fr_S_spout; omega))]) (fun k _ => by rw [F2 232 k (by first | (simp [fr_M_spout]; done) | (unfold fr_M_spout; omega)), F1 232 k (by first | (simp [fr_S_spout]; done) | (unfold fr_S_spout; omega))])), (fun q => zXgk_n (R10 (by omega)) (by rw [F2 64 2 (by first | (simp [fr_M_spout]; done) | (unfold fr_M_spout; omega)), F1 64 2 (by first | (simp [fr_S_spout]; done) | (unfold fr_S_spout; omega))]) (fun k => by rw [F2 74 k (by first | (simp [fr_M_spout]; done) | (unfold fr_M_spout; omega)), F1 74 k (by first | (simp [fr_S_spout]; done) | (unfold fr_S_spout; omega))]) (fun k => by rw [F2 250 k (by first | (simp [fr_M_spout]; done) | (unfold fr_M_spout; omega)), F1 250 k (by first | (simp [fr_S_spout]; done) | (unfold fr_S_spout; omega))])), zb_, Z2⟩
theorem zpf_M_sitter {a : Nat} {i : Int} (hc : zPc a i) : ¬ fr_M_sitter a i := fun w => by
  have ha := zPc_le hc
  unfold fr_M_sitter at w
  clear hc
  omega
set_option maxRecDepth 100000 in
set_option maxHeartbeats 4000000 in
theorem zw_c2 {E : sx_E} {i : Int} {g : zi_M} (hL : sx_Ln E ≤ 3072) (h0 : 0 ≤ i) (h6 : i + 6 ≤ ((sx_Ln E : Nat) : Int)) (R : zw_R g) (k : ∀ g' : zi_M, zw_R g' → zi_W E 420 326 1356 [some (.ref 1000000000), some (.ref 0), some (.ref 214), some (zi_i i)] [] g' zw_Q) : zi_W E 420 326 266 [some (.ref 1000000000), some (.ref 0), some (.ref 214), some (zi_i i)] [] g zw_Q := by
  obtain ⟨I, R0, R1, R2, R3, R4, R5, R6, R7, R8, R9, R10, R11, R12⟩ := R
  refine zi_aload_n (pc' := 267) rfl rfl rfl ?_
  refine zi_aload_n (pc' := 268) rfl rfl rfl ?_
  refine zi_iload_n (pc' := 269) rfl rfl rfl ?_
  refine zi_iconst (pc' := 270) rfl rfl ?_
  refine zi_iadd (pc' := 271) rfl rfl ?_
  refine zi_xald (pc' := 272) rfl rfl hL ⟨by omega, by omega⟩ ?_
  refine zi_callV (d' := 2) (as := [_]) (pc' := 275) rfl rfl rfl rfl (by decide) (s_S_sitter (Q := fun v g' => zk_I g' ∧ zk_fr fr_S_sitter g g' ∧ ((-1) ≤ v ∧ v ≤ 7) ∧ (0 ≤ (zw_s E (i + 1)) ∧ (zw_s E (i + 1)) ≤ 65535 ∧ g 2 11 < 8 → v = g 2 11 ∧ g' 2 11 = g 2 11 + 1) ∧ (¬ (0 ≤ (zw_s E (i + 1)) ∧ (zw_s E (i + 1)) ≤ 65535 ∧ g 2 11 < 8) → v = -1 ∧ g' 2 11 = g 2 11) ∧ (¬ v = -1 → g' 91 1 = 0) ∧ (v = -1 → g' = g) ∧ (∀ k : Int, 0 ≤ k ∧ k < 8 → (¬ v = -1 ∧ k = g 2 11 → g' 10 k = (zw_s E (i + 1))) ∧ (¬ (¬ v = -1 ∧ k = g 2 11) → g' 10 k = g 10 k)) ∧ (∀ k : Int, 0 ≤ k ∧ k < 8 → (¬ v = -1 ∧ k = g 2 11 → g' 11 k = (-1)) ∧ (¬ (¬ v = -1 ∧ k = g 2 11) → g' 11 k = g 11 k))) (Nat.le_refl _) (k_S_sitter I (zw_r _ _) (fun v g' I' F' h0 h1 h2 h3 h4 h5 h6 => ⟨I', F', h0, h1, h2, h3, h4, h5, h6⟩))) (zi_ki (fun v1 g1 h1 => ?_))
  obtain ⟨I1, F1, p1_0, p1_1, p1_2, p1_3, p1_4, p1_5, p1_6⟩ := h1
  have c1_0_2 : g1 0 2 = g 0 2 := F1 0 2 (by first | (simp [fr_S_sitter]; done) | (unfold fr_S_sitter; omega))
  have c1_0_8 : g1 0 8 = g 0 8 := F1 0 8 (by first | (simp [fr_S_sitter]; done) | (unfold fr_S_sitter; omega))
  have c1_2_8 : g1 2 8 = g 2 8 := F1 2 8 (by first | (simp [fr_S_sitter]; done) | (unfold fr_S_sitter; omega))
  have c1_47_8 : g1 47 8 = g 47 8 := F1 47 8 (by first | (simp [fr_S_sitter]; done) | (unfold fr_S_sitter; omega))
  have c1_47_11 : g1 47 11 = g 47 11 := F1 47 11 (by first | (simp [fr_S_sitter]; done) | (unfold fr_S_sitter; omega))
  have c1_214_6 : g1 214 6 = g 214 6 := F1 214 6 (by first | (simp [fr_S_sitter]; done) | (unfold fr_S_sitter; omega))
  have c1_214_7 : g1 214 7 = g 214 7 := F1 214 7 (by first | (simp [fr_S_sitter]; done) | (unfold fr_S_sitter; omega))
  have c1_214_13 : g1 214 13 = g 214 13 := F1 214 13 (by first | (simp [fr_S_sitter]; done) | (unfold fr_S_sitter; omega))
  have c1_214_62 : g1 214 62 = g 214 62 := F1 214 62 (by first | (simp [fr_S_sitter]; done) | (unfold fr_S_sitter; omega))
  have c1_250_264 : g1 250 264 = g 250 264 := F1 250 264 (by first | (simp [fr_S_sitter]; done) | (unfold fr_S_sitter; omega))
  have c1_250_265 : g1 250 265 = g 250 265 := F1 250 265 (by first | (simp [fr_S_sitter]; done) | (unfold fr_S_sitter; omega))
  have Z1 : zP g1 := by
    by_cases hv : v1 = -1
    · rw [p1_4 hv]; exact R12
    · exact zP_0 (p1_3 hv)
  refine zi_pop (pc' := 276) rfl rfl rfl ?_
  refine zi_aload_n (pc' := 277) rfl rfl rfl ?_
  refine zi_aload_n (pc' := 278) rfl rfl rfl ?_
  refine zi_iload_n (pc' := 279) rfl rfl rfl ?_
  refine zi_iconst (pc' := 280) rfl rfl ?_
  refine zi_iadd (pc' := 281) rfl rfl ?_
  refine zi_xald (pc' := 282) rfl rfl hL ⟨by omega, by omega⟩ ?_
  refine zi_callV (d' := 2) (as := [_]) (pc' := 285) rfl rfl rfl rfl (by decide) (s_M_sitter (Q := fun v g' => zk_I g' ∧ zk_fr fr_M_sitter g1 g' ∧ ((-1) ≤ v ∧ v ≤ 7) ∧ (0 ≤ (zw_s E (i + 1)) ∧ (zw_s E (i + 1)) ≤ 65535 ∧ g1 214 7 < 8 → v = g1 214 7 ∧ g' 214 7 = g1 214 7 + 1) ∧ (¬ (0 ≤ (zw_s E (i + 1)) ∧ (zw_s E (i + 1)) ≤ 65535 ∧ g1 214 7 < 8) → v = -1 ∧ g' 214 7 = g1 214 7) ∧ (∀ k : Int, 0 ≤ k ∧ k < 264 → (¬ v = -1 ∧ k = 236 + g1 214 7 → g' 215 k = (zw_s E (i + 1))) ∧ (¬ v = -1 ∧ k = 244 + g1 214 7 → g' 215 k = 0) ∧ (¬ (¬ v = -1 ∧ (k = 236 + g1 214 7 ∨ k = 244 + g1 214 7)) → g' 215 k = g1 215 k)) ∧ (¬ v = -1 → g' 214 3 = 0) ∧ (v = -1 → g' 214 3 = g1 214 3)) (Nat.le_refl _) (k_M_sitter I1 (zw_r _ _) (fun v g' I' F' h0 h1 h2 h3 h4 h5 => ⟨I', F', h0, h1, h2, h3, h4, h5⟩))) (zi_ki (fun v2 g2 h2 => ?_))
  obtain ⟨I2, F2, p2_0, p2_1, p2_2, p2_3, p2_4, p2_5⟩ := h2
  have c2_0_2 : g2 0 2 = g1 0 2 := F2 0 2 (by first | (simp [fr_M_sitter]; done) | (unfold fr_M_sitter; omega))
  have c2_0_8 : g2 0 8 = g1 0 8 := F2 0 8 (by first | (simp [fr_M_sitter]; done) | (unfold fr_M_sitter; omega))
  have c2_2_8 : g2 2 8 = g1 2 8 := F2 2 8 (by first | (simp [fr_M_sitter]; done) | (unfold fr_M_sitter; omega))
  have c2_2_11 : g2 2 11 = g1 2 11 := F2 2 11 (by first | (simp [fr_M_sitter]; done) | (unfold fr_M_sitter; omega))
  have c2_47_8 : g2 47 8 = g1 47 8 := F2 47 8 (by first | (simp [fr_M_sitter]; done) | (unfold fr_M_sitter; omega))
  have c2_47_11 : g2 47 11 = g1 47 11 := F2 47 11 (by first | (simp [fr_M_sitter]; done) | (unfold fr_M_sitter; omega))
  have c2_214_6 : g2 214 6 = g1 214 6 := F2 214 6 (by first | (simp [fr_M_sitter]; done) | (unfold fr_M_sitter; omega))
  have c2_214_13 : g2 214 13 = g1 214 13 := F2 214 13 (by first | (simp [fr_M_sitter]; done) | (unfold fr_M_sitter; omega))
  have c2_214_62 : g2 214 62 = g1 214 62 := F2 214 62 (by first | (simp [fr_M_sitter]; done) | (unfold fr_M_sitter; omega))
  have c2_250_264 : g2 250 264 = g1 250 264 := F2 250 264 (by first | (simp [fr_M_sitter]; done) | (unfold fr_M_sitter; omega))
  have c2_250_265 : g2 250 265 = g1 250 265 := F2 250 265 (by first | (simp [fr_M_sitter]; done) | (unfold fr_M_sitter; omega))
  have Z2 : zP g2 := zP_eq (fun a i hc => F2 a i (zpf_M_sitter hc)) Z1
  have zb_ : zBD g2 := zBD_sitter R11 R5 (by omega) ⟨(I.1 2 11).1, (I1.1 2 11).2⟩ p1_3 p1_4 p1_5 p1_6 p2_3 p2_4 p2_5 (fun cc => by omega) (fun cc => by omega) (fun cc => by have hb : 0 ≤ g1 214 7 := (I1.1 214 7).1; omega) (fun a i h => F1 a i (fun w => by unfold fr_S_sitter at w; omega)) (fun a i h => F2 a i (fun w => by unfold fr_M_sitter at w; omega)) (fun a i h => by (try unfold zFsx at h); (try unfold zFt at h); exact (F2 a i (fun w => by unfold fr_M_sitter at w; omega)).trans (F1 a i (fun w => by unfold fr_S_sitter at w; omega)))
  refine zi_pop (pc' := 286) rfl rfl rfl ?_
  refine zi_goto (x := 1356) rfl ?_
  exact k _ ⟨I2, (by rw [c2_0_2, c1_0_2, c2_214_62, c1_214_62]; exact R0), (by rw [c2_0_8, c1_0_8, c2_214_13, c1_214_13]; exact R1), (funext fun k => by rw [F2 190 k (by first | (simp [fr_M_sitter]; done) | (unfold fr_M_sitter; omega)), F1 190 k (by first | (simp [fr_S_sitter]; done) | (unfold fr_S_sitter; omega)), F2 222 k (by first | (simp [fr_M_sitter]; done) | (unfold fr_M_sitter; omega)), F1 222 k (by first | (simp [fr_S_sitter]; done) | (unfold fr_S_sitter; omega))]; exact congrFun R2 k), (by rw [c2_2_8, c1_2_8, c2_214_6, c1_214_6]; exact R3), (fun q => by rw [c2_47_8, c1_47_8, c2_250_264, c1_250_264]; exact R4 (by rw [c2_0_2, c1_0_2] at q; exact q)), by omega, (fun q => by rw [c2_47_11, c1_47_11, c2_250_265, c1_250_265]; exact R6 (by rw [c2_0_2, c1_0_2] at q; exact q)), (zXw_n R7 (by rw [F2 19 5 (by first | (simp [fr_M_sitter]; done) | (unfold fr_M_sitter; omega)), F1 19 5 (by first | (simp [fr_S_sitter]; done) | (unfold fr_S_sitter; omega))]) (by rw [F2 214 37 (by first | (simp [fr_M_sitter]; done) | (unfold fr_M_sitter; omega)), F1 214 37 (by first | (simp [fr_S_sitter]; done) | (unfold fr_S_sitter; omega))]) (fun k => by rw [F2 30 k (by first | (simp [fr_M_sitter]; done) | (unfold fr_M_sitter; omega)), F1 30 k (by first | (simp [fr_S_sitter]; done) | (unfold fr_S_sitter; omega))]) (fun k => by rw [F2 31 k (by first | (simp [fr_M_sitter]; done) | (unfold fr_M_sitter; omega)), F1 31 k (by first | (simp [fr_S_sitter]; done) | (unfold fr_S_sitter; omega))]) (fun k _ => by rw [F2 233 k (by first | (simp [fr_M_sitter]; done) | (unfold fr_M_sitter; omega)), F1 233 k (by first | (simp [fr_S_sitter]; done) | (unfold fr_S_sitter; omega))]) (show 0 ≤ g 19 5 ∧ g 19 5 ≤ 16 from I.1 19 5).2), (fun q => zXwk_n (R8 (by omega)) (by rw [F2 64 5 (by first | (simp [fr_M_sitter]; done) | (unfold fr_M_sitter; omega)), F1 64 5 (by first | (simp [fr_S_sitter]; done) | (unfold fr_S_sitter; omega))]) (fun k => by rw [F2 75 k (by first | (simp [fr_M_sitter]; done) | (unfold fr_M_sitter; omega)), F1 75 k (by first | (simp [fr_S_sitter]; done) | (unfold fr_S_sitter; omega))]) (fun k => by rw [F2 76 k (by first | (simp [fr_M_sitter]; done) | (unfold fr_M_sitter; omega)), F1 76 k (by first | (simp [fr_S_sitter]; done) | (unfold fr_S_sitter; omega))]) (fun k => by rw [F2 250 k (by first | (simp [fr_M_sitter]; done) | (unfold fr_M_sitter; omega)), F1 250 k (by first | (simp [fr_S_sitter]; done) | (unfold fr_S_sitter; omega))])), (zXg_n R9 (by rw [F2 19 2 (by first | (simp [fr_M_sitter]; done) | (unfold fr_M_sitter; omega)), F1 19 2 (by first | (simp [fr_S_sitter]; done) | (unfold fr_S_sitter; omega))]) (by rw [F2 214 35 (by first | (simp [fr_M_sitter]; done) | (unfold fr_M_sitter; omega)), F1 214 35 (by first | (simp [fr_S_sitter]; done) | (unfold fr_S_sitter; omega))]) (fun k => by rw [F2 29 k (by first | (simp [fr_M_sitter]; done) | (unfold fr_M_sitter; omega)), F1 29 k (by first | (simp [fr_S_sitter]; done) | (unfold fr_S_sitter; omega))]) (fun k _ => by rw [F2 232 k (by first | (simp [fr_M_sitter]; done) | (unfold fr_M_sitter; omega)), F1 232 k (by first | (simp [fr_S_sitter]; done) | (unfold fr_S_sitter; omega))])), (fun q => zXgk_n (R10 (by omega)) (by rw [F2 64 2 (by first | (simp [fr_M_sitter]; done) | (unfold fr_M_sitter; omega)), F1 64 2 (by first | (simp [fr_S_sitter]; done) | (unfold fr_S_sitter; omega))]) (fun k => by rw [F2 74 k (by first | (simp [fr_M_sitter]; done) | (unfold fr_M_sitter; omega)), F1 74 k (by first | (simp [fr_S_sitter]; done) | (unfold fr_S_sitter; omega))]) (fun k => by rw [F2 250 k (by first | (simp [fr_M_sitter]; done) | (unfold fr_M_sitter; omega)), F1 250 k (by first | (simp [fr_S_sitter]; done) | (unfold fr_S_sitter; omega))])), zb_, Z2⟩
