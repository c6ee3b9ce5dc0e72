-- by program (wip/gen/mklaw.py)
theorem zpf_M_sitter {a : Nat} {i : Int} (hc : zPc a i) : ¬ fr_M_sitter a i := fun w => by
  have ha := zPc_le hc
  unfold fr_M_sitter at w
  clear hc
  omega
theorem zbg_M_sitterFlw {a : Nat} {i : Int} (h : zFlw a i) : ¬ fr_M_sitter a i := fun w => by
  unfold fr_M_sitter at w
  unfold zFlw at h
  omega
theorem zbg_S_sitterFlw {a : Nat} {i : Int} (h : zFlw a i) : ¬ fr_S_sitter a i := fun w => by
  unfold fr_S_sitter at w
  unfold zFlw at h
  omega
theorem zbg_M_sitterFlk {a : Nat} {i : Int} (h : zFlk a i) : ¬ fr_M_sitter a i := fun w => by
  unfold fr_M_sitter at w
  unfold zFlk at h
  omega
theorem zbg_S_sitterFlk {a : Nat} {i : Int} (h : zFlk a i) : ¬ fr_S_sitter a i := fun w => by
  unfold fr_S_sitter at w
  unfold zFlk at h
  omega
set_option maxRecDepth 100000 in
set_option maxHeartbeats 4000000 in
theorem zw_c2 {E : sx_E} {i : Int} {g : zi_M} (hL : sx_Ln E ≤ 3072) (h0 : 0 ≤ i) (h6 : i + 6 ≤ ((sx_Ln E : Nat) : Int)) (R : zw_R g) (k : ∀ g' : zi_M, zw_R g' → zi_W E 420 326 1356 [some (.ref 1000000000), some (.ref 0), some (.ref 214), some (zi_i i)] [] g' zw_Q) : zi_W E 420 326 266 [some (.ref 1000000000), some (.ref 0), some (.ref 214), some (zi_i i)] [] g zw_Q := by
  obtain ⟨I, R0, R1, R2, R3, R4, R5, R6, R7, R8, R9, R10, R11, R12, R13, R14, R15, R16, R17, R18, R19, R20, R21⟩ := R
  refine zi_aload_n (pc' := 267) rfl rfl rfl ?_
  refine zi_aload_n (pc' := 268) rfl rfl rfl ?_
  refine zi_iload_n (pc' := 269) rfl rfl rfl ?_
  refine zi_iconst (pc' := 270) rfl rfl ?_
  refine zi_iadd (pc' := 271) rfl rfl ?_
  refine zi_xald (pc' := 272) rfl rfl hL ⟨by omega, by omega⟩ ?_
  refine zi_callV (d' := 2) (as := [_]) (pc' := 275) rfl rfl rfl rfl (by decide) (s_S_sitter (Q := fun v g' => zk_I g' ∧ zk_fr fr_S_sitter g g' ∧ ((-1) ≤ v ∧ v ≤ 7) ∧ (0 ≤ (zw_s E (i + 1)) ∧ (zw_s E (i + 1)) ≤ 65535 ∧ g 2 11 < 8 → v = g 2 11 ∧ g' 2 11 = g 2 11 + 1) ∧ (¬ (0 ≤ (zw_s E (i + 1)) ∧ (zw_s E (i + 1)) ≤ 65535 ∧ g 2 11 < 8) → v = -1 ∧ g' 2 11 = g 2 11) ∧ (¬ v = -1 → g' 91 1 = 0) ∧ (v = -1 → g' = g) ∧ (∀ k : Int, 0 ≤ k ∧ k < 8 → (¬ v = -1 ∧ k = g 2 11 → g' 10 k = (zw_s E (i + 1))) ∧ (¬ (¬ v = -1 ∧ k = g 2 11) → g' 10 k = g 10 k)) ∧ (∀ k : Int, 0 ≤ k ∧ k < 8 → (¬ v = -1 ∧ k = g 2 11 → g' 11 k = (-1)) ∧ (¬ (¬ v = -1 ∧ k = g 2 11) → g' 11 k = g 11 k))) (Nat.le_refl _) (k_S_sitter I (zw_r _ _) (fun v g' I' F' h0 h1 h2 h3 h4 h5 h6 => ⟨I', F', h0, h1, h2, h3, h4, h5, h6⟩))) (zi_ki (fun v1 g1 h1 => ?_))
  obtain ⟨I1, F1, p1_0, p1_1, p1_2, p1_3, p1_4, p1_5, p1_6⟩ := h1
  have c1_0_2 : g1 0 2 = g 0 2 := F1 0 2 (by first | (simp [fr_S_sitter]; done) | (unfold fr_S_sitter; omega))
  have c1_0_8 : g1 0 8 = g 0 8 := F1 0 8 (by first | (simp [fr_S_sitter]; done) | (unfold fr_S_sitter; omega))
  have c1_2_8 : g1 2 8 = g 2 8 := F1 2 8 (by first | (simp [fr_S_sitter]; done) | (unfold fr_S_sitter; omega))
  have c1_47_8 : g1 47 8 = g 47 8 := F1 47 8 (by first | (simp [fr_S_sitter]; done) | (unfold fr_S_sitter; omega))
  have c1_47_11 : g1 47 11 = g 47 11 := F1 47 11 (by first | (simp [fr_S_sitter]; done) | (unfold fr_S_sitter; omega))
  have c1_214_6 : g1 214 6 = g 214 6 := F1 214 6 (by first | (simp [fr_S_sitter]; done) | (unfold fr_S_sitter; omega))
  have c1_214_7 : g1 214 7 = g 214 7 := F1 214 7 (by first | (simp [fr_S_sitter]; done) | (unfold fr_S_sitter; omega))
  have c1_214_13 : g1 214 13 = g 214 13 := F1 214 13 (by first | (simp [fr_S_sitter]; done) | (unfold fr_S_sitter; omega))
  have c1_214_62 : g1 214 62 = g 214 62 := F1 214 62 (by first | (simp [fr_S_sitter]; done) | (unfold fr_S_sitter; omega))
  have c1_250_264 : g1 250 264 = g 250 264 := F1 250 264 (by first | (simp [fr_S_sitter]; done) | (unfold fr_S_sitter; omega))
  have c1_250_265 : g1 250 265 = g 250 265 := F1 250 265 (by first | (simp [fr_S_sitter]; done) | (unfold fr_S_sitter; omega))
  have Z1 : zP g1 := by
    by_cases hv : v1 = -1
    · rw [p1_4 hv]; exact R21
    · exact zP_0 (p1_3 hv)
  refine zi_pop (pc' := 276) rfl rfl rfl ?_
  refine zi_aload_n (pc' := 277) rfl rfl rfl ?_
  refine zi_aload_n (pc' := 278) rfl rfl rfl ?_
  refine zi_iload_n (pc' := 279) rfl rfl rfl ?_
  refine zi_iconst (pc' := 280) rfl rfl ?_
  refine zi_iadd (pc' := 281) rfl rfl ?_
  refine zi_xald (pc' := 282) rfl rfl hL ⟨by omega, by omega⟩ ?_
  refine zi_callV (d' := 2) (as := [_]) (pc' := 285) rfl rfl rfl rfl (by decide) (s_M_sitter (Q := fun v g' => zk_I g' ∧ zk_fr fr_M_sitter g1 g' ∧ ((-1) ≤ v ∧ v ≤ 7) ∧ (0 ≤ (zw_s E (i + 1)) ∧ (zw_s E (i + 1)) ≤ 65535 ∧ g1 214 7 < 8 → v = g1 214 7 ∧ g' 214 7 = g1 214 7 + 1) ∧ (¬ (0 ≤ (zw_s E (i + 1)) ∧ (zw_s E (i + 1)) ≤ 65535 ∧ g1 214 7 < 8) → v = -1 ∧ g' 214 7 = g1 214 7) ∧ (∀ k : Int, 0 ≤ k ∧ k < 264 → (¬ v = -1 ∧ k = 236 + g1 214 7 → g' 215 k = (zw_s E (i + 1))) ∧ (¬ v = -1 ∧ k = 244 + g1 214 7 → g' 215 k = 0) ∧ (¬ (¬ v = -1 ∧ (k = 236 + g1 214 7 ∨ k = 244 + g1 214 7)) → g' 215 k = g1 215 k)) ∧ (¬ v = -1 → g' 214 3 = 0) ∧ (v = -1 → g' 214 3 = g1 214 3)) (Nat.le_refl _) (k_M_sitter I1 (zw_r _ _) (fun v g' I' F' h0 h1 h2 h3 h4 h5 => ⟨I', F', h0, h1, h2, h3, h4, h5⟩))) (zi_ki (fun v2 g2 h2 => ?_))
  obtain ⟨I2, F2, p2_0, p2_1, p2_2, p2_3, p2_4, p2_5⟩ := h2
  have c2_0_2 : g2 0 2 = g1 0 2 := F2 0 2 (by first | (simp [fr_M_sitter]; done) | (unfold fr_M_sitter; omega))
  have c2_0_8 : g2 0 8 = g1 0 8 := F2 0 8 (by first | (simp [fr_M_sitter]; done) | (unfold fr_M_sitter; omega))
  have c2_2_8 : g2 2 8 = g1 2 8 := F2 2 8 (by first | (simp [fr_M_sitter]; done) | (unfold fr_M_sitter; omega))
  have c2_2_11 : g2 2 11 = g1 2 11 := F2 2 11 (by first | (simp [fr_M_sitter]; done) | (unfold fr_M_sitter; omega))
  have c2_47_8 : g2 47 8 = g1 47 8 := F2 47 8 (by first | (simp [fr_M_sitter]; done) | (unfold fr_M_sitter; omega))
  have c2_47_11 : g2 47 11 = g1 47 11 := F2 47 11 (by first | (simp [fr_M_sitter]; done) | (unfold fr_M_sitter; omega))
  have c2_214_6 : g2 214 6 = g1 214 6 := F2 214 6 (by first | (simp [fr_M_sitter]; done) | (unfold fr_M_sitter; omega))
  have c2_214_13 : g2 214 13 = g1 214 13 := F2 214 13 (by first | (simp [fr_M_sitter]; done) | (unfold fr_M_sitter; omega))
  have c2_214_62 : g2 214 62 = g1 214 62 := F2 214 62 (by first | (simp [fr_M_sitter]; done) | (unfold fr_M_sitter; omega))
  have c2_250_264 : g2 250 264 = g1 250 264 := F2 250 264 (by first | (simp [fr_M_sitter]; done) | (unfold fr_M_sitter; omega))
  have c2_250_265 : g2 250 265 = g1 250 265 := F2 250 265 (by first | (simp [fr_M_sitter]; done) | (unfold fr_M_sitter; omega))
  have Z2 : zP g2 := zP_eq (fun a i hc => F2 a i (zpf_M_sitter hc)) Z1
  have zb_ : zBD g2 := zBD_sitter R11 R5 (by omega) ⟨(I.1 2 11).1, (I1.1 2 11).2⟩ p1_3 p1_4 p1_5 p1_6 p2_3 p2_4 p2_5 (fun cc => by omega) (fun cc => by omega) (fun cc => by have hb : 0 ≤ g1 214 7 := (I1.1 214 7).1; omega) (fun a i h => F1 a i (fun w => by unfold fr_S_sitter at w; omega)) (fun a i h => F2 a i (fun w => by unfold fr_M_sitter at w; omega)) (fun a i h => by (try unfold zFsx at h); (try unfold zFt at h); exact (F2 a i (fun w => by unfold fr_M_sitter at w; omega)).trans (F1 a i (fun w => by unfold fr_S_sitter at w; omega)))
  have zf2_ : zFD g2 := zFD_sitter R20 R5 (by omega) (I.1 2 11).1 (fun cc => by have hb : g1 2 11 ≤ 8 := (I1.1 2 11).2; omega) (fun cc => by omega) p1_3 p1_4 p1_5 p1_6 p2_3 (fun a i h => F1 a i (fun w => by unfold fr_S_sitter at w; omega)) (fun a i h => F2 a i (fun w => by unfold fr_M_sitter at w; omega)) (fun a i h => by (exact (F2 a i (fun w => by unfold fr_M_sitter at w; omega)).trans (F1 a i (fun w => by unfold fr_S_sitter at w; omega)))) (fun a i h => by unfold zFe1 at h; unfold zFs2 at h; (exact (F2 a i (fun w => by unfold fr_M_sitter at w; omega)).trans (F1 a i (fun w => by unfold fr_S_sitter at w; omega))))
  refine zi_pop (pc' := 286) rfl rfl rfl ?_
  refine zi_goto (x := 1356) rfl ?_
  exact k _ ⟨I2, (by rw [c2_0_2, c1_0_2, c2_214_62, c1_214_62]; exact R0), (by rw [c2_0_8, c1_0_8, c2_214_13, c1_214_13]; exact R1), (funext fun k => by rw [F2 190 k (by first | (simp [fr_M_sitter]; done) | (unfold fr_M_sitter; omega)), F1 190 k (by first | (simp [fr_S_sitter]; done) | (unfold fr_S_sitter; omega)), F2 222 k (by first | (simp [fr_M_sitter]; done) | (unfold fr_M_sitter; omega)), F1 222 k (by first | (simp [fr_S_sitter]; done) | (unfold fr_S_sitter; omega))]; exact congrFun R2 k), (by rw [c2_2_8, c1_2_8, c2_214_6, c1_214_6]; exact R3), (fun q => by rw [c2_47_8, c1_47_8, c2_250_264, c1_250_264]; exact R4 (by rw [c2_0_2, c1_0_2] at q; exact q)), by omega, (fun q => by rw [c2_47_11, c1_47_11, c2_250_265, c1_250_265]; exact R6 (by rw [c2_0_2, c1_0_2] at q; exact q)), (zXw_n R7 (by rw [F2 19 5 (by first | (simp [fr_M_sitter]; done) | (unfold fr_M_sitter; omega)), F1 19 5 (by first | (simp [fr_S_sitter]; done) | (unfold fr_S_sitter; omega))]) (by rw [F2 214 37 (by first | (simp [fr_M_sitter]; done) | (unfold fr_M_sitter; omega)), F1 214 37 (by first | (simp [fr_S_sitter]; done) | (unfold fr_S_sitter; omega))]) (fun k => by rw [F2 30 k (by first | (simp [fr_M_sitter]; done) | (unfold fr_M_sitter; omega)), F1 30 k (by first | (simp [fr_S_sitter]; done) | (unfold fr_S_sitter; omega))]) (fun k => by rw [F2 31 k (by first | (simp [fr_M_sitter]; done) | (unfold fr_M_sitter; omega)), F1 31 k (by first | (simp [fr_S_sitter]; done) | (unfold fr_S_sitter; omega))]) (fun k _ => by rw [F2 233 k (by first | (simp [fr_M_sitter]; done) | (unfold fr_M_sitter; omega)), F1 233 k (by first | (simp [fr_S_sitter]; done) | (unfold fr_S_sitter; omega))]) (show 0 ≤ g 19 5 ∧ g 19 5 ≤ 16 from I.1 19 5).2), (fun q => zXwk_n (R8 (by omega)) (by rw [F2 64 5 (by first | (simp [fr_M_sitter]; done) | (unfold fr_M_sitter; omega)), F1 64 5 (by first | (simp [fr_S_sitter]; done) | (unfold fr_S_sitter; omega))]) (fun k => by rw [F2 75 k (by first | (simp [fr_M_sitter]; done) | (unfold fr_M_sitter; omega)), F1 75 k (by first | (simp [fr_S_sitter]; done) | (unfold fr_S_sitter; omega))]) (fun k => by rw [F2 76 k (by first | (simp [fr_M_sitter]; done) | (unfold fr_M_sitter; omega)), F1 76 k (by first | (simp [fr_S_sitter]; done) | (unfold fr_S_sitter; omega))]) (fun k => by rw [F2 250 k (by first | (simp [fr_M_sitter]; done) | (unfold fr_M_sitter; omega)), F1 250 k (by first | (simp [fr_S_sitter]; done) | (unfold fr_S_sitter; omega))])), (zXg_n R9 (by rw [F2 19 2 (by first | (simp [fr_M_sitter]; done) | (unfold fr_M_sitter; omega)), F1 19 2 (by first | (simp [fr_S_sitter]; done) | (unfold fr_S_sitter; omega))]) (by rw [F2 214 35 (by first | (simp [fr_M_sitter]; done) | (unfold fr_M_sitter; omega)), F1 214 35 (by first | (simp [fr_S_sitter]; done) | (unfold fr_S_sitter; omega))]) (fun k => by rw [F2 29 k (by first | (simp [fr_M_sitter]; done) | (unfold fr_M_sitter; omega)), F1 29 k (by first | (simp [fr_S_sitter]; done) | (unfold fr_S_sitter; omega))]) (fun k _ => by rw [F2 232 k (by first | (simp [fr_M_sitter]; done) | (unfold fr_M_sitter; omega)), F1 232 k (by first | (simp [fr_S_sitter]; done) | (unfold fr_S_sitter; omega))])), (fun q => zXgk_n (R10 (by omega)) (by rw [F2 64 2 (by first | (simp [fr_M_sitter]; done) | (unfold fr_M_sitter; omega)), F1 64 2 (by first | (simp [fr_S_sitter]; done) | (unfold fr_S_sitter; omega))]) (fun k => by rw [F2 74 k (by first | (simp [fr_M_sitter]; done) | (unfold fr_M_sitter; omega)), F1 74 k (by first | (simp [fr_S_sitter]; done) | (unfold fr_S_sitter; omega))]) (fun k => by rw [F2 250 k (by first | (simp [fr_M_sitter]; done) | (unfold fr_M_sitter; omega)), F1 250 k (by first | (simp [fr_S_sitter]; done) | (unfold fr_S_sitter; omega))])), zb_, (zRw_n (fun k => by rw [F2 5 k (by first | (simp [fr_M_sitter]; done) | (unfold fr_M_sitter; omega)), F1 5 k (by first | (simp [fr_S_sitter]; done) | (unfold fr_S_sitter; omega))]) (fun k => by rw [F2 220 k (by first | (simp [fr_M_sitter]; done) | (unfold fr_M_sitter; omega)), F1 220 k (by first | (simp [fr_S_sitter]; done) | (unfold fr_S_sitter; omega))]) R12), (fun q => zRw_nk (fun k => by rw [F2 50 k (by first | (simp [fr_M_sitter]; done) | (unfold fr_M_sitter; omega)), F1 50 k (by first | (simp [fr_S_sitter]; done) | (unfold fr_S_sitter; omega))]) (fun k => by rw [F2 250 k (by first | (simp [fr_M_sitter]; done) | (unfold fr_M_sitter; omega)), F1 250 k (by first | (simp [fr_S_sitter]; done) | (unfold fr_S_sitter; omega))]) (R13 (by omega))), (zRw_n (fun k => by rw [F2 3 k (by first | (simp [fr_M_sitter]; done) | (unfold fr_M_sitter; omega)), F1 3 k (by first | (simp [fr_S_sitter]; done) | (unfold fr_S_sitter; omega))]) (fun k => by rw [F2 218 k (by first | (simp [fr_M_sitter]; done) | (unfold fr_M_sitter; omega)), F1 218 k (by first | (simp [fr_S_sitter]; done) | (unfold fr_S_sitter; omega))]) R14), (fun q => zRw_nk (fun k => by rw [F2 48 k (by first | (simp [fr_M_sitter]; done) | (unfold fr_M_sitter; omega)), F1 48 k (by first | (simp [fr_S_sitter]; done) | (unfold fr_S_sitter; omega))]) (fun k => by rw [F2 250 k (by first | (simp [fr_M_sitter]; done) | (unfold fr_M_sitter; omega)), F1 250 k (by first | (simp [fr_S_sitter]; done) | (unfold fr_S_sitter; omega))]) (R15 (by omega))), (zRw_n (fun k => by rw [F2 4 k (by first | (simp [fr_M_sitter]; done) | (unfold fr_M_sitter; omega)), F1 4 k (by first | (simp [fr_S_sitter]; done) | (unfold fr_S_sitter; omega))]) (fun k => by rw [F2 219 k (by first | (simp [fr_M_sitter]; done) | (unfold fr_M_sitter; omega)), F1 219 k (by first | (simp [fr_S_sitter]; done) | (unfold fr_S_sitter; omega))]) R16), (fun q => zRw_nk (fun k => by rw [F2 49 k (by first | (simp [fr_M_sitter]; done) | (unfold fr_M_sitter; omega)), F1 49 k (by first | (simp [fr_S_sitter]; done) | (unfold fr_S_sitter; omega))]) (fun k => by rw [F2 250 k (by first | (simp [fr_M_sitter]; done) | (unfold fr_M_sitter; omega)), F1 250 k (by first | (simp [fr_S_sitter]; done) | (unfold fr_S_sitter; omega))]) (R17 (by omega))), (zLW_n R18 (show 0 ≤ g 224 0 ∧ g 224 0 ≤ 16 from I.1 224 0).2 (fun a i h => (F2 a i (zbg_M_sitterFlw h)).trans (F1 a i (zbg_S_sitterFlw h)))), (fun q => zLWk_n (R19 (by omega)) (fun a i h => (F2 a i (zbg_M_sitterFlk h)).trans (F1 a i (zbg_S_sitterFlk h)))), zf2_, Z2⟩
theorem zpf_M_set {a : Nat} {i : Int} (hc : zPc a i) : ¬ fr_M_set a i := fun w => by
  have ha := zPc_le hc
  unfold fr_M_set at w
  clear hc
  omega
theorem zbg_M_setFlw {a : Nat} {i : Int} (h : zFlw a i) : ¬ fr_M_set a i := fun w => by
  unfold fr_M_set at w
  unfold zFlw at h
  omega
theorem zbg_S_setFlw {a : Nat} {i : Int} (h : zFlw a i) : ¬ fr_S_set a i := fun w => by
  unfold fr_S_set at w
  unfold zFlw at h
  omega
theorem zbg_M_setFlk {a : Nat} {i : Int} (h : zFlk a i) : ¬ fr_M_set a i := fun w => by
  unfold fr_M_set at w
  unfold zFlk at h
  omega
theorem zbg_S_setFlk {a : Nat} {i : Int} (h : zFlk a i) : ¬ fr_S_set a i := fun w => by
  unfold fr_S_set at w
  unfold zFlk at h
  omega
set_option maxRecDepth 100000 in
set_option maxHeartbeats 4000000 in
theorem zw_c3 {E : sx_E} {i : Int} {g : zi_M} (hL : sx_Ln E ≤ 3072) (h0 : 0 ≤ i) (h6 : i + 6 ≤ ((sx_Ln E : Nat) : Int)) (R : zw_R g) (k : ∀ g' : zi_M, zw_R g' → zi_W E 420 326 1356 [some (.ref 1000000000), some (.ref 0), some (.ref 214), some (zi_i i)] [] g' zw_Q) : zi_W E 420 326 289 [some (.ref 1000000000), some (.ref 0), some (.ref 214), some (zi_i i)] [] g zw_Q := by
  obtain ⟨I, R0, R1, R2, R3, R4, R5, R6, R7, R8, R9, R10, R11, R12, R13, R14, R15, R16, R17, R18, R19, R20, R21⟩ := R
  refine zi_aload_n (pc' := 290) rfl rfl rfl ?_
  refine zi_aload_n (pc' := 291) rfl rfl rfl ?_
  refine zi_iload_n (pc' := 292) rfl rfl rfl ?_
  refine zi_iconst (pc' := 293) rfl rfl ?_
  refine zi_iadd (pc' := 294) rfl rfl ?_
  refine zi_xald (pc' := 295) rfl rfl hL ⟨by omega, by omega⟩ ?_
  refine zi_aload_n (pc' := 296) rfl rfl rfl ?_
  refine zi_iload_n (pc' := 297) rfl rfl rfl ?_
  refine zi_iconst (pc' := 298) rfl rfl ?_
  refine zi_iadd (pc' := 299) rfl rfl ?_
  refine zi_xald (pc' := 300) rfl rfl hL ⟨by omega, by omega⟩ ?_
  refine zi_aload_n (pc' := 301) rfl rfl rfl ?_
  refine zi_iload_n (pc' := 302) rfl rfl rfl ?_
  refine zi_iconst (pc' := 303) rfl rfl ?_
  refine zi_iadd (pc' := 304) rfl rfl ?_
  refine zi_xald (pc' := 305) rfl rfl hL ⟨by omega, by omega⟩ ?_
  refine zi_callV (d' := 2) (as := [_, _, _]) (pc' := 308) rfl rfl rfl rfl (by decide) (s_S_set (Q := fun v g' => zk_I g' ∧ zk_fr fr_S_set g g' ∧ (0 ≤ v ∧ v ≤ 1) ∧ (zPs (g 2 8) (g 2 11) (zw_s E (i + 1)) (zw_s E (i + 2)) (zw_s E (i + 3)) → v = 1) ∧ (¬ zPs (g 2 8) (g 2 11) (zw_s E (i + 1)) (zw_s E (i + 2)) (zw_s E (i + 3)) → v = 0) ∧ (¬ v = 0 → g' 91 1 = 0) ∧ (v = 0 → g' = g) ∧ (∀ k : Int, 0 ≤ k ∧ k < 10 → (¬ v = 0 ∧ (zw_s E (i + 1)) = 1 ∧ k = (zw_s E (i + 2)) → g' 5 k = (zw_s E (i + 3))) ∧ (¬ (¬ v = 0 ∧ (zw_s E (i + 1)) = 1 ∧ k = (zw_s E (i + 2))) → g' 5 k = g 5 k)) ∧ (∀ k : Int, 0 ≤ k ∧ k < 10 → (¬ v = 0 ∧ (zw_s E (i + 1)) = 2 ∧ k = (zw_s E (i + 2)) → g' 7 k = (zw_s E (i + 3))) ∧ (¬ (¬ v = 0 ∧ (zw_s E (i + 1)) = 2 ∧ k = (zw_s E (i + 2))) → g' 7 k = g 7 k)) ∧ (∀ k : Int, 0 ≤ k ∧ k < 8 → (¬ v = 0 ∧ (zw_s E (i + 1)) = 3 ∧ k = (zw_s E (i + 2)) → g' 10 k = (zw_s E (i + 3))) ∧ (¬ (¬ v = 0 ∧ (zw_s E (i + 1)) = 3 ∧ k = (zw_s E (i + 2))) → g' 10 k = g 10 k)) ∧ ((¬ v = 0 ∧ (zw_s E (i + 1)) = 0 → g' 2 14 = (zw_s E (i + 3))) ∧ (¬ (¬ v = 0 ∧ (zw_s E (i + 1)) = 0) → g' 2 14 = g 2 14))) (Nat.le_refl _) (k_S_set I (zw_r _ _) (zw_r _ _) (zw_r _ _) (fun v g' I' F' h0 h1 h2 h3 h4 h5 h6 h7 h8 => ⟨I', F', h0, h1, h2, h3, h4, h5, h6, h7, h8⟩))) (zi_kb (fun v1 g1 b1 h1 => ?_))
  obtain ⟨I1, F1, p1_0, p1_1, p1_2, p1_3, p1_4, p1_5, p1_6, p1_7, p1_8⟩ := h1
  have c1_0_2 : g1 0 2 = g 0 2 := F1 0 2 (by first | (simp [fr_S_set]; done) | (unfold fr_S_set; omega))
  have c1_0_8 : g1 0 8 = g 0 8 := F1 0 8 (by first | (simp [fr_S_set]; done) | (unfold fr_S_set; omega))
  have c1_2_8 : g1 2 8 = g 2 8 := F1 2 8 (by first | (simp [fr_S_set]; done) | (unfold fr_S_set; omega))
  have c1_2_11 : g1 2 11 = g 2 11 := F1 2 11 (by first | (simp [fr_S_set]; done) | (unfold fr_S_set; omega))
  have c1_47_8 : g1 47 8 = g 47 8 := F1 47 8 (by first | (simp [fr_S_set]; done) | (unfold fr_S_set; omega))
  have c1_47_11 : g1 47 11 = g 47 11 := F1 47 11 (by first | (simp [fr_S_set]; done) | (unfold fr_S_set; omega))
  have c1_214_6 : g1 214 6 = g 214 6 := F1 214 6 (by first | (simp [fr_S_set]; done) | (unfold fr_S_set; omega))
  have c1_214_7 : g1 214 7 = g 214 7 := F1 214 7 (by first | (simp [fr_S_set]; done) | (unfold fr_S_set; omega))
  have c1_214_13 : g1 214 13 = g 214 13 := F1 214 13 (by first | (simp [fr_S_set]; done) | (unfold fr_S_set; omega))
  have c1_214_62 : g1 214 62 = g 214 62 := F1 214 62 (by first | (simp [fr_S_set]; done) | (unfold fr_S_set; omega))
  have c1_250_264 : g1 250 264 = g 250 264 := F1 250 264 (by first | (simp [fr_S_set]; done) | (unfold fr_S_set; omega))
  have c1_250_265 : g1 250 265 = g 250 265 := F1 250 265 (by first | (simp [fr_S_set]; done) | (unfold fr_S_set; omega))
  have Z1 : zP g1 := by
    by_cases hv : v1 = 0
    · rw [p1_4 hv]; exact R21
    · exact zP_0 (p1_3 hv)
  refine zi_pop (pc' := 309) rfl rfl rfl ?_
  refine zi_aload_n (pc' := 310) rfl rfl rfl ?_
  refine zi_aload_n (pc' := 311) rfl rfl rfl ?_
  refine zi_iload_n (pc' := 312) rfl rfl rfl ?_
  refine zi_iconst (pc' := 313) rfl rfl ?_
  refine zi_iadd (pc' := 314) rfl rfl ?_
  refine zi_xald (pc' := 315) rfl rfl hL ⟨by omega, by omega⟩ ?_
  refine zi_aload_n (pc' := 316) rfl rfl rfl ?_
  refine zi_iload_n (pc' := 317) rfl rfl rfl ?_
  refine zi_iconst (pc' := 318) rfl rfl ?_
  refine zi_iadd (pc' := 319) rfl rfl ?_
  refine zi_xald (pc' := 320) rfl rfl hL ⟨by omega, by omega⟩ ?_
  refine zi_aload_n (pc' := 321) rfl rfl rfl ?_
  refine zi_iload_n (pc' := 322) rfl rfl rfl ?_
  refine zi_iconst (pc' := 323) rfl rfl ?_
  refine zi_iadd (pc' := 324) rfl rfl ?_
  refine zi_xald (pc' := 325) rfl rfl hL ⟨by omega, by omega⟩ ?_
  refine zi_callV (d' := 3) (as := [_, _, _]) (pc' := 328) rfl rfl rfl rfl (by decide) (s_M_set (Q := fun v g' => zk_I g' ∧ zk_fr fr_M_set g1 g' ∧ (0 ≤ v ∧ v ≤ 1) ∧ (zPs (g1 214 6) (g1 214 7) (zw_s E (i + 1)) (zw_s E (i + 2)) (zw_s E (i + 3)) → v = 1) ∧ (¬ zPs (g1 214 6) (g1 214 7) (zw_s E (i + 1)) (zw_s E (i + 2)) (zw_s E (i + 3)) → v = 0) ∧ (∀ k : Int, 0 ≤ k ∧ k < 10 → (¬ v = 0 ∧ (zw_s E (i + 1)) = 1 ∧ k = (zw_s E (i + 2)) → g' 220 k = (zw_s E (i + 3))) ∧ (¬ (¬ v = 0 ∧ (zw_s E (i + 1)) = 1 ∧ k = (zw_s E (i + 2))) → g' 220 k = g1 220 k)) ∧ (¬ v = 0 → zMt3 (zw_s E (i + 1)) (zw_s E (i + 2)) (zw_s E (i + 3)) g1 g') ∧ (v = 0 → ∀ k : Int, g' 215 k = g1 215 k) ∧ (¬ v = 0 → g' 214 3 = 0) ∧ (v = 0 → g' 214 3 = g1 214 3)) (Nat.le_refl _) (k_M_set I1 (zw_r _ _) (zw_r _ _) (zw_r _ _) (fun v g' I' F' h0 h1 h2 h3 h4 h5 h6 h7 => ⟨I', F', h0, h1, h2, h3, h4, h5, h6, h7⟩))) (zi_kb (fun v2 g2 b2 h2 => ?_))
  obtain ⟨I2, F2, p2_0, p2_1, p2_2, p2_3, p2_4, p2_5, p2_6, p2_7⟩ := h2
  have es_ : v2 = v1 := zP_eq2 p1_1 p1_2 p2_1 p2_2 (by omega) (by omega)
  have c2_0_2 : g2 0 2 = g1 0 2 := F2 0 2 (by first | (simp [fr_M_set]; done) | (unfold fr_M_set; omega))
  have c2_0_8 : g2 0 8 = g1 0 8 := F2 0 8 (by first | (simp [fr_M_set]; done) | (unfold fr_M_set; omega))
  have c2_2_8 : g2 2 8 = g1 2 8 := F2 2 8 (by first | (simp [fr_M_set]; done) | (unfold fr_M_set; omega))
  have c2_2_11 : g2 2 11 = g1 2 11 := F2 2 11 (by first | (simp [fr_M_set]; done) | (unfold fr_M_set; omega))
  have c2_47_8 : g2 47 8 = g1 47 8 := F2 47 8 (by first | (simp [fr_M_set]; done) | (unfold fr_M_set; omega))
  have c2_47_11 : g2 47 11 = g1 47 11 := F2 47 11 (by first | (simp [fr_M_set]; done) | (unfold fr_M_set; omega))
  have c2_214_6 : g2 214 6 = g1 214 6 := F2 214 6 (by first | (simp [fr_M_set]; done) | (unfold fr_M_set; omega))
  have c2_214_7 : g2 214 7 = g1 214 7 := F2 214 7 (by first | (simp [fr_M_set]; done) | (unfold fr_M_set; omega))
  have c2_214_13 : g2 214 13 = g1 214 13 := F2 214 13 (by first | (simp [fr_M_set]; done) | (unfold fr_M_set; omega))
  have c2_214_62 : g2 214 62 = g1 214 62 := F2 214 62 (by first | (simp [fr_M_set]; done) | (unfold fr_M_set; omega))
  have c2_250_264 : g2 250 264 = g1 250 264 := F2 250 264 (by first | (simp [fr_M_set]; done) | (unfold fr_M_set; omega))
  have c2_250_265 : g2 250 265 = g1 250 265 := F2 250 265 (by first | (simp [fr_M_set]; done) | (unfold fr_M_set; omega))
  have Z2 : zP g2 := zP_eq (fun a i hc => F2 a i (zpf_M_set hc)) Z1
  have es_ : v2 = v1 := zP_eq2 p1_1 p1_2 p2_1 p2_2 (by omega) (by omega)
  have zb_ : zBD g2 := zBD_set R11 es_ ⟨(I.1 2 8).2, (I.1 2 11).2⟩ p1_2 p1_3 p1_4 (fun k hk => ⟨fun h => (p1_7 k hk).1 ⟨h.1.1, h.1.2, h.2⟩, fun h => (p1_7 k hk).2 (fun z => h ⟨⟨z.1, z.2.1⟩, z.2.2⟩)⟩) p1_8 p2_4 p2_5 p2_6 p2_7 (fun a i h => F1 a i (fun w => by unfold fr_S_set at w; omega)) (fun a i h => F2 a i (fun w => by unfold fr_M_set at w; omega)) (fun a i h => by (try unfold zFsx at h); (try unfold zFt at h); exact (F2 a i (fun w => by unfold fr_M_set at w; omega)).trans (F1 a i (fun w => by unfold fr_S_set at w; omega)))
  have zf2_ : zFD g2 := zFD_set R20 es_ ⟨(I.1 2 8).2, (I.1 2 11).2⟩ p1_2 p1_3 p1_4 (fun k hk => ⟨fun h => (p1_6 k hk).1 ⟨h.1.1, h.1.2, h.2⟩, fun h => (p1_6 k hk).2 (fun z => h ⟨⟨z.1, z.2.1⟩, z.2.2⟩)⟩) (fun k hk => ⟨fun h => (p1_7 k hk).1 ⟨h.1.1, h.1.2, h.2⟩, fun h => (p1_7 k hk).2 (fun z => h ⟨⟨z.1, z.2.1⟩, z.2.2⟩)⟩) p1_8 p2_4 p2_5 (fun a i h => F1 a i (fun w => by unfold fr_S_set at w; omega)) (fun a i h => F2 a i (fun w => by unfold fr_M_set at w; omega)) (fun a i h => by (exact (F2 a i (fun w => by unfold fr_M_set at w; omega)).trans (F1 a i (fun w => by unfold fr_S_set at w; omega)))) (fun a i h => by unfold zFe1 at h; unfold zFs3 at h; (exact (F2 a i (fun w => by unfold fr_M_set at w; omega)).trans (F1 a i (fun w => by unfold fr_S_set at w; omega))))
  refine zi_pop (pc' := 329) rfl rfl rfl ?_
  refine zi_goto (x := 1356) rfl ?_
  exact k _ ⟨I2, (by rw [c2_0_2, c1_0_2, c2_214_62, c1_214_62]; exact R0), (by rw [c2_0_8, c1_0_8, c2_214_13, c1_214_13]; exact R1), (funext fun k => by rw [F2 190 k (by first | (simp [fr_M_set]; done) | (unfold fr_M_set; omega)), F1 190 k (by first | (simp [fr_S_set]; done) | (unfold fr_S_set; omega)), F2 222 k (by first | (simp [fr_M_set]; done) | (unfold fr_M_set; omega)), F1 222 k (by first | (simp [fr_S_set]; done) | (unfold fr_S_set; omega))]; exact congrFun R2 k), (by rw [c2_2_8, c1_2_8, c2_214_6, c1_214_6]; exact R3), (fun q => by rw [c2_47_8, c1_47_8, c2_250_264, c1_250_264]; exact R4 (by rw [c2_0_2, c1_0_2] at q; exact q)), (by rw [c2_2_11, c1_2_11, c2_214_7, c1_214_7]; exact R5), (fun q => by rw [c2_47_11, c1_47_11, c2_250_265, c1_250_265]; exact R6 (by rw [c2_0_2, c1_0_2] at q; exact q)), (zXw_n R7 (by rw [F2 19 5 (by first | (simp [fr_M_set]; done) | (unfold fr_M_set; omega)), F1 19 5 (by first | (simp [fr_S_set]; done) | (unfold fr_S_set; omega))]) (by rw [F2 214 37 (by first | (simp [fr_M_set]; done) | (unfold fr_M_set; omega)), F1 214 37 (by first | (simp [fr_S_set]; done) | (unfold fr_S_set; omega))]) (fun k => by rw [F2 30 k (by first | (simp [fr_M_set]; done) | (unfold fr_M_set; omega)), F1 30 k (by first | (simp [fr_S_set]; done) | (unfold fr_S_set; omega))]) (fun k => by rw [F2 31 k (by first | (simp [fr_M_set]; done) | (unfold fr_M_set; omega)), F1 31 k (by first | (simp [fr_S_set]; done) | (unfold fr_S_set; omega))]) (fun k _ => by rw [F2 233 k (by first | (simp [fr_M_set]; done) | (unfold fr_M_set; omega)), F1 233 k (by first | (simp [fr_S_set]; done) | (unfold fr_S_set; omega))]) (show 0 ≤ g 19 5 ∧ g 19 5 ≤ 16 from I.1 19 5).2), (fun q => zXwk_n (R8 (by omega)) (by rw [F2 64 5 (by first | (simp [fr_M_set]; done) | (unfold fr_M_set; omega)), F1 64 5 (by first | (simp [fr_S_set]; done) | (unfold fr_S_set; omega))]) (fun k => by rw [F2 75 k (by first | (simp [fr_M_set]; done) | (unfold fr_M_set; omega)), F1 75 k (by first | (simp [fr_S_set]; done) | (unfold fr_S_set; omega))]) (fun k => by rw [F2 76 k (by first | (simp [fr_M_set]; done) | (unfold fr_M_set; omega)), F1 76 k (by first | (simp [fr_S_set]; done) | (unfold fr_S_set; omega))]) (fun k => by rw [F2 250 k (by first | (simp [fr_M_set]; done) | (unfold fr_M_set; omega)), F1 250 k (by first | (simp [fr_S_set]; done) | (unfold fr_S_set; omega))])), (zXg_n R9 (by rw [F2 19 2 (by first | (simp [fr_M_set]; done) | (unfold fr_M_set; omega)), F1 19 2 (by first | (simp [fr_S_set]; done) | (unfold fr_S_set; omega))]) (by rw [F2 214 35 (by first | (simp [fr_M_set]; done) | (unfold fr_M_set; omega)), F1 214 35 (by first | (simp [fr_S_set]; done) | (unfold fr_S_set; omega))]) (fun k => by rw [F2 29 k (by first | (simp [fr_M_set]; done) | (unfold fr_M_set; omega)), F1 29 k (by first | (simp [fr_S_set]; done) | (unfold fr_S_set; omega))]) (fun k _ => by rw [F2 232 k (by first | (simp [fr_M_set]; done) | (unfold fr_M_set; omega)), F1 232 k (by first | (simp [fr_S_set]; done) | (unfold fr_S_set; omega))])), (fun q => zXgk_n (R10 (by omega)) (by rw [F2 64 2 (by first | (simp [fr_M_set]; done) | (unfold fr_M_set; omega)), F1 64 2 (by first | (simp [fr_S_set]; done) | (unfold fr_S_set; omega))]) (fun k => by rw [F2 74 k (by first | (simp [fr_M_set]; done) | (unfold fr_M_set; omega)), F1 74 k (by first | (simp [fr_S_set]; done) | (unfold fr_S_set; omega))]) (fun k => by rw [F2 250 k (by first | (simp [fr_M_set]; done) | (unfold fr_M_set; omega)), F1 250 k (by first | (simp [fr_S_set]; done) | (unfold fr_S_set; omega))])), zb_, (fun k k0 k1 => by have a5 := R12 k k0 k1; try dsimp only at a5; try dsimp only; try simp only [Int.zero_add] at a5; try simp only [Int.zero_add]; have b1 := p1_5 k ⟨k0, k1⟩; have d1 := F1 220 k (by first | (simp [fr_S_set]; done) | (unfold fr_S_set; omega)); have b2 := p2_3 k ⟨k0, k1⟩; have d2 := F2 5 k (by first | (simp [fr_M_set]; done) | (unfold fr_M_set; omega)); omega), (fun q => zRw_nk (fun k => by rw [F2 50 k (by first | (simp [fr_M_set]; done) | (unfold fr_M_set; omega)), F1 50 k (by first | (simp [fr_S_set]; done) | (unfold fr_S_set; omega))]) (fun k => by rw [F2 250 k (by first | (simp [fr_M_set]; done) | (unfold fr_M_set; omega)), F1 250 k (by first | (simp [fr_S_set]; done) | (unfold fr_S_set; omega))]) (R13 (by omega))), (zRw_n (fun k => by rw [F2 3 k (by first | (simp [fr_M_set]; done) | (unfold fr_M_set; omega)), F1 3 k (by first | (simp [fr_S_set]; done) | (unfold fr_S_set; omega))]) (fun k => by rw [F2 218 k (by first | (simp [fr_M_set]; done) | (unfold fr_M_set; omega)), F1 218 k (by first | (simp [fr_S_set]; done) | (unfold fr_S_set; omega))]) R14), (fun q => zRw_nk (fun k => by rw [F2 48 k (by first | (simp [fr_M_set]; done) | (unfold fr_M_set; omega)), F1 48 k (by first | (simp [fr_S_set]; done) | (unfold fr_S_set; omega))]) (fun k => by rw [F2 250 k (by first | (simp [fr_M_set]; done) | (unfold fr_M_set; omega)), F1 250 k (by first | (simp [fr_S_set]; done) | (unfold fr_S_set; omega))]) (R15 (by omega))), (zRw_n (fun k => by rw [F2 4 k (by first | (simp [fr_M_set]; done) | (unfold fr_M_set; omega)), F1 4 k (by first | (simp [fr_S_set]; done) | (unfold fr_S_set; omega))]) (fun k => by rw [F2 219 k (by first | (simp [fr_M_set]; done) | (unfold fr_M_set; omega)), F1 219 k (by first | (simp [fr_S_set]; done) | (unfold fr_S_set; omega))]) R16), (fun q => zRw_nk (fun k => by rw [F2 49 k (by first | (simp [fr_M_set]; done) | (unfold fr_M_set; omega)), F1 49 k (by first | (simp [fr_S_set]; done) | (unfold fr_S_set; omega))]) (fun k => by rw [F2 250 k (by first | (simp [fr_M_set]; done) | (unfold fr_M_set; omega)), F1 250 k (by first | (simp [fr_S_set]; done) | (unfold fr_S_set; omega))]) (R17 (by omega))), (zLW_n R18 (show 0 ≤ g 224 0 ∧ g 224 0 ≤ 16 from I.1 224 0).2 (fun a i h => (F2 a i (zbg_M_setFlw h)).trans (F1 a i (zbg_S_setFlw h)))), (fun q => zLWk_n (R19 (by omega)) (fun a i h => (F2 a i (zbg_M_setFlk h)).trans (F1 a i (zbg_S_setFlk h)))), zf2_, Z2⟩
