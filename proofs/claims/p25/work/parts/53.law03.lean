-- by program (wip/gen/mklaw.py)
theorem zpf_M_act {a : Nat} {i : Int} (hc : zPc a i) : ¬ fr_M_act a i := fun w => by
  have ha := zPc_le hc
  unfold fr_M_act at w
  clear hc
  omega
theorem zbg_M_actFlw {a : Nat} {i : Int} (h : zFlw a i) : ¬ fr_M_act a i := fun w => by
  unfold fr_M_act at w
  unfold zFlw at h
  omega
theorem zbg_S_actFlw {a : Nat} {i : Int} (h : zFlw a i) : ¬ fr_S_act a i := fun w => by
  unfold fr_S_act at w
  unfold zFlw at h
  omega
theorem zbg_M_actFlk {a : Nat} {i : Int} (h : zFlk a i) : ¬ fr_M_act a i := fun w => by
  unfold fr_M_act at w
  unfold zFlk at h
  omega
theorem zbg_S_actFlk {a : Nat} {i : Int} (h : zFlk a i) : ¬ fr_S_act a i := fun w => by
  unfold fr_S_act at w
  unfold zFlk at h
  omega
set_option maxRecDepth 100000 in
set_option maxHeartbeats 4000000 in
theorem zw_c4 {E : sx_E} {i : Int} {g : zi_M} (hL : sx_Ln E ≤ 3072) (h0 : 0 ≤ i) (h6 : i + 6 ≤ ((sx_Ln E : Nat) : Int)) (R : zw_R g) (k : ∀ g' : zi_M, zw_R g' → zi_W E 420 326 1356 [some (.ref 1000000000), some (.ref 0), some (.ref 214), some (zi_i i)] [] g' zw_Q) : zi_W E 420 326 332 [some (.ref 1000000000), some (.ref 0), some (.ref 214), some (zi_i i)] [] g zw_Q := by
  obtain ⟨I, R0, R1, R2, R3, R4, R5, R6, R7, R8, R9, R10, R11, R12, R13, R14, R15, R16, R17, R18, R19, R20, R21⟩ := R
  refine zi_aload_n (pc' := 333) rfl rfl rfl ?_
  refine zi_aload_n (pc' := 334) rfl rfl rfl ?_
  refine zi_iload_n (pc' := 335) rfl rfl rfl ?_
  refine zi_iconst (pc' := 336) rfl rfl ?_
  refine zi_iadd (pc' := 337) rfl rfl ?_
  refine zi_xald (pc' := 338) rfl rfl hL ⟨by omega, by omega⟩ ?_
  refine zi_aload_n (pc' := 339) rfl rfl rfl ?_
  refine zi_iload_n (pc' := 340) rfl rfl rfl ?_
  refine zi_iconst (pc' := 341) rfl rfl ?_
  refine zi_iadd (pc' := 342) rfl rfl ?_
  refine zi_xald (pc' := 343) rfl rfl hL ⟨by omega, by omega⟩ ?_
  refine zi_aload_n (pc' := 344) rfl rfl rfl ?_
  refine zi_iload_n (pc' := 345) rfl rfl rfl ?_
  refine zi_iconst (pc' := 346) rfl rfl ?_
  refine zi_iadd (pc' := 347) rfl rfl ?_
  refine zi_xald (pc' := 348) rfl rfl hL ⟨by omega, by omega⟩ ?_
  refine zi_callV (d' := 4) (as := [_, _, _]) (pc' := 351) rfl rfl rfl rfl (by decide) (s_S_act (Q := fun v g' => zk_I g' ∧ zk_fr fr_S_act g g' ∧ (0 ≤ v ∧ v ≤ 1) ∧ (zPa (g 2 8) (g 2 11) (zw_s E (i + 1)) (zw_s E (i + 2)) (zw_s E (i + 3)) → v = 1) ∧ (¬ zPa (g 2 8) (g 2 11) (zw_s E (i + 1)) (zw_s E (i + 2)) (zw_s E (i + 3)) → v = 0) ∧ (zP g → zP g') ∧ (zPa (g 2 8) (g 2 11) (zw_s E (i + 1)) (zw_s E (i + 2)) (zw_s E (i + 3)) → zAk (zw_s E (i + 1)) (zw_s E (i + 2)) (zw_s E (i + 3)) g g') ∧ (¬ zPa (g 2 8) (g 2 11) (zw_s E (i + 1)) (zw_s E (i + 2)) (zw_s E (i + 3)) → g' = g)) (Nat.le_refl _) (k_S_act I (zw_r _ _) (zw_r _ _) (zw_r _ _) (fun v g' I' F' h0 h1 h2 h3 h4 h5 => ⟨I', F', h0, h1, h2, h3, h4, h5⟩))) (zi_kb (fun v1 g1 b1 h1 => ?_))
  obtain ⟨I1, F1, p1_0, p1_1, p1_2, p1_3, p1_4, p1_5⟩ := h1
  have c1_0_2 : g1 0 2 = g 0 2 := F1 0 2 (by first | (simp [fr_S_act]; done) | (unfold fr_S_act; omega))
  have c1_0_8 : g1 0 8 = g 0 8 := F1 0 8 (by first | (simp [fr_S_act]; done) | (unfold fr_S_act; omega))
  have c1_2_8 : g1 2 8 = g 2 8 := F1 2 8 (by first | (simp [fr_S_act]; done) | (unfold fr_S_act; omega))
  have c1_2_11 : g1 2 11 = g 2 11 := F1 2 11 (by first | (simp [fr_S_act]; done) | (unfold fr_S_act; omega))
  have c1_47_8 : g1 47 8 = g 47 8 := F1 47 8 (by first | (simp [fr_S_act]; done) | (unfold fr_S_act; omega))
  have c1_47_11 : g1 47 11 = g 47 11 := F1 47 11 (by first | (simp [fr_S_act]; done) | (unfold fr_S_act; omega))
  have c1_214_6 : g1 214 6 = g 214 6 := F1 214 6 (by first | (simp [fr_S_act]; done) | (unfold fr_S_act; omega))
  have c1_214_7 : g1 214 7 = g 214 7 := F1 214 7 (by first | (simp [fr_S_act]; done) | (unfold fr_S_act; omega))
  have c1_214_13 : g1 214 13 = g 214 13 := F1 214 13 (by first | (simp [fr_S_act]; done) | (unfold fr_S_act; omega))
  have c1_214_62 : g1 214 62 = g 214 62 := F1 214 62 (by first | (simp [fr_S_act]; done) | (unfold fr_S_act; omega))
  have c1_250_264 : g1 250 264 = g 250 264 := F1 250 264 (by first | (simp [fr_S_act]; done) | (unfold fr_S_act; omega))
  have c1_250_265 : g1 250 265 = g 250 265 := F1 250 265 (by first | (simp [fr_S_act]; done) | (unfold fr_S_act; omega))
  have Z1 : zP g1 := p1_3 R21
  clear p1_3
  refine zi_pop (pc' := 352) rfl rfl rfl ?_
  refine zi_aload_n (pc' := 353) rfl rfl rfl ?_
  refine zi_aload_n (pc' := 354) rfl rfl rfl ?_
  refine zi_iload_n (pc' := 355) rfl rfl rfl ?_
  refine zi_iconst (pc' := 356) rfl rfl ?_
  refine zi_iadd (pc' := 357) rfl rfl ?_
  refine zi_xald (pc' := 358) rfl rfl hL ⟨by omega, by omega⟩ ?_
  refine zi_aload_n (pc' := 359) rfl rfl rfl ?_
  refine zi_iload_n (pc' := 360) rfl rfl rfl ?_
  refine zi_iconst (pc' := 361) rfl rfl ?_
  refine zi_iadd (pc' := 362) rfl rfl ?_
  refine zi_xald (pc' := 363) rfl rfl hL ⟨by omega, by omega⟩ ?_
  refine zi_aload_n (pc' := 364) rfl rfl rfl ?_
  refine zi_iload_n (pc' := 365) rfl rfl rfl ?_
  refine zi_iconst (pc' := 366) rfl rfl ?_
  refine zi_iadd (pc' := 367) rfl rfl ?_
  refine zi_xald (pc' := 368) rfl rfl hL ⟨by omega, by omega⟩ ?_
  refine zi_callV (d' := 3) (as := [_, _, _]) (pc' := 371) rfl rfl rfl rfl (by decide) (s_M_act (Q := fun v g' => zk_I g' ∧ zk_fr fr_M_act g1 g' ∧ (0 ≤ v ∧ v ≤ 1) ∧ (zPa (g1 214 6) (g1 214 7) (zw_s E (i + 1)) (zw_s E (i + 2)) (zw_s E (i + 3)) → v = 1) ∧ (¬ zPa (g1 214 6) (g1 214 7) (zw_s E (i + 1)) (zw_s E (i + 2)) (zw_s E (i + 3)) → v = 0) ∧ (zPa (g1 214 6) (g1 214 7) (zw_s E (i + 1)) (zw_s E (i + 2)) (zw_s E (i + 3)) → zAm (zw_s E (i + 1)) (zw_s E (i + 2)) (zw_s E (i + 3)) g1 g') ∧ (¬ zPa (g1 214 6) (g1 214 7) (zw_s E (i + 1)) (zw_s E (i + 2)) (zw_s E (i + 3)) → ∃ x : Int, g' = zi_u g1 214 0 x)) (Nat.le_refl _) (k_M_act I1 (zw_r _ _) (zw_r _ _) (zw_r _ _) (fun v g' I' F' h0 h1 h2 h3 h4 => ⟨I', F', h0, h1, h2, h3, h4⟩))) (zi_kb (fun v2 g2 b2 h2 => ?_))
  obtain ⟨I2, F2, p2_0, p2_1, p2_2, p2_3, p2_4⟩ := h2
  have c2_0_2 : g2 0 2 = g1 0 2 := F2 0 2 (by first | (simp [fr_M_act]; done) | (unfold fr_M_act; omega))
  have c2_0_8 : g2 0 8 = g1 0 8 := F2 0 8 (by first | (simp [fr_M_act]; done) | (unfold fr_M_act; omega))
  have c2_2_8 : g2 2 8 = g1 2 8 := F2 2 8 (by first | (simp [fr_M_act]; done) | (unfold fr_M_act; omega))
  have c2_2_11 : g2 2 11 = g1 2 11 := F2 2 11 (by first | (simp [fr_M_act]; done) | (unfold fr_M_act; omega))
  have c2_47_8 : g2 47 8 = g1 47 8 := F2 47 8 (by first | (simp [fr_M_act]; done) | (unfold fr_M_act; omega))
  have c2_47_11 : g2 47 11 = g1 47 11 := F2 47 11 (by first | (simp [fr_M_act]; done) | (unfold fr_M_act; omega))
  have c2_214_6 : g2 214 6 = g1 214 6 := F2 214 6 (by first | (simp [fr_M_act]; done) | (unfold fr_M_act; omega))
  have c2_214_7 : g2 214 7 = g1 214 7 := F2 214 7 (by first | (simp [fr_M_act]; done) | (unfold fr_M_act; omega))
  have c2_214_13 : g2 214 13 = g1 214 13 := F2 214 13 (by first | (simp [fr_M_act]; done) | (unfold fr_M_act; omega))
  have c2_214_62 : g2 214 62 = g1 214 62 := F2 214 62 (by first | (simp [fr_M_act]; done) | (unfold fr_M_act; omega))
  have c2_250_264 : g2 250 264 = g1 250 264 := F2 250 264 (by first | (simp [fr_M_act]; done) | (unfold fr_M_act; omega))
  have c2_250_265 : g2 250 265 = g1 250 265 := F2 250 265 (by first | (simp [fr_M_act]; done) | (unfold fr_M_act; omega))
  have Z2 : zP g2 := zP_eq (fun a i hc => F2 a i (zpf_M_act hc)) Z1
  have zb_ : zBD g2 := zBD_act I R11 R3 R5 p1_4 p1_5 p2_3 p2_4 (fun a i h => F1 a i (fun w => by unfold fr_S_act at w; omega)) (fun a i h => F2 a i (fun w => by unfold fr_M_act at w; omega)) (fun a i h => by (try unfold zFsx at h); (try unfold zFt at h); exact (F2 a i (fun w => by unfold fr_M_act at w; omega)).trans (F1 a i (fun w => by unfold fr_S_act at w; omega)))
  have zf2_ : zFD g2 := zFD_act I R20 R11.2.1.1 R3 R5 p1_4 p1_5 p2_3 p2_4 (fun a i h => F1 a i (fun w => by unfold fr_S_act at w; omega)) (fun a i h => F2 a i (fun w => by unfold fr_M_act at w; omega)) (fun a i h => by unfold zFh at h; (exact (F2 a i (fun w => by unfold fr_M_act at w; omega)).trans (F1 a i (fun w => by unfold fr_S_act at w; omega))))
  refine zi_pop (pc' := 372) rfl rfl rfl ?_
  refine zi_goto (x := 1356) rfl ?_
  exact k _ ⟨I2, (by rw [c2_0_2, c1_0_2, c2_214_62, c1_214_62]; exact R0), (by rw [c2_0_8, c1_0_8, c2_214_13, c1_214_13]; exact R1), (funext fun k => by rw [F2 190 k (by first | (simp [fr_M_act]; done) | (unfold fr_M_act; omega)), F1 190 k (by first | (simp [fr_S_act]; done) | (unfold fr_S_act; omega)), F2 222 k (by first | (simp [fr_M_act]; done) | (unfold fr_M_act; omega)), F1 222 k (by first | (simp [fr_S_act]; done) | (unfold fr_S_act; omega))]; exact congrFun R2 k), (by rw [c2_2_8, c1_2_8, c2_214_6, c1_214_6]; exact R3), (fun q => by rw [c2_47_8, c1_47_8, c2_250_264, c1_250_264]; exact R4 (by rw [c2_0_2, c1_0_2] at q; exact q)), (by rw [c2_2_11, c1_2_11, c2_214_7, c1_214_7]; exact R5), (fun q => by rw [c2_47_11, c1_47_11, c2_250_265, c1_250_265]; exact R6 (by rw [c2_0_2, c1_0_2] at q; exact q)), (zXw_n R7 (by rw [F2 19 5 (by first | (simp [fr_M_act]; done) | (unfold fr_M_act; omega)), F1 19 5 (by first | (simp [fr_S_act]; done) | (unfold fr_S_act; omega))]) (by rw [F2 214 37 (by first | (simp [fr_M_act]; done) | (unfold fr_M_act; omega)), F1 214 37 (by first | (simp [fr_S_act]; done) | (unfold fr_S_act; omega))]) (fun k => by rw [F2 30 k (by first | (simp [fr_M_act]; done) | (unfold fr_M_act; omega)), F1 30 k (by first | (simp [fr_S_act]; done) | (unfold fr_S_act; omega))]) (fun k => by rw [F2 31 k (by first | (simp [fr_M_act]; done) | (unfold fr_M_act; omega)), F1 31 k (by first | (simp [fr_S_act]; done) | (unfold fr_S_act; omega))]) (fun k _ => by rw [F2 233 k (by first | (simp [fr_M_act]; done) | (unfold fr_M_act; omega)), F1 233 k (by first | (simp [fr_S_act]; done) | (unfold fr_S_act; omega))]) (show 0 ≤ g 19 5 ∧ g 19 5 ≤ 16 from I.1 19 5).2), (fun q => zXwk_n (R8 (by omega)) (by rw [F2 64 5 (by first | (simp [fr_M_act]; done) | (unfold fr_M_act; omega)), F1 64 5 (by first | (simp [fr_S_act]; done) | (unfold fr_S_act; omega))]) (fun k => by rw [F2 75 k (by first | (simp [fr_M_act]; done) | (unfold fr_M_act; omega)), F1 75 k (by first | (simp [fr_S_act]; done) | (unfold fr_S_act; omega))]) (fun k => by rw [F2 76 k (by first | (simp [fr_M_act]; done) | (unfold fr_M_act; omega)), F1 76 k (by first | (simp [fr_S_act]; done) | (unfold fr_S_act; omega))]) (fun k => by rw [F2 250 k (by first | (simp [fr_M_act]; done) | (unfold fr_M_act; omega)), F1 250 k (by first | (simp [fr_S_act]; done) | (unfold fr_S_act; omega))])), (zXg_n R9 (by rw [F2 19 2 (by first | (simp [fr_M_act]; done) | (unfold fr_M_act; omega)), F1 19 2 (by first | (simp [fr_S_act]; done) | (unfold fr_S_act; omega))]) (by rw [F2 214 35 (by first | (simp [fr_M_act]; done) | (unfold fr_M_act; omega)), F1 214 35 (by first | (simp [fr_S_act]; done) | (unfold fr_S_act; omega))]) (fun k => by rw [F2 29 k (by first | (simp [fr_M_act]; done) | (unfold fr_M_act; omega)), F1 29 k (by first | (simp [fr_S_act]; done) | (unfold fr_S_act; omega))]) (fun k _ => by rw [F2 232 k (by first | (simp [fr_M_act]; done) | (unfold fr_M_act; omega)), F1 232 k (by first | (simp [fr_S_act]; done) | (unfold fr_S_act; omega))])), (fun q => zXgk_n (R10 (by omega)) (by rw [F2 64 2 (by first | (simp [fr_M_act]; done) | (unfold fr_M_act; omega)), F1 64 2 (by first | (simp [fr_S_act]; done) | (unfold fr_S_act; omega))]) (fun k => by rw [F2 74 k (by first | (simp [fr_M_act]; done) | (unfold fr_M_act; omega)), F1 74 k (by first | (simp [fr_S_act]; done) | (unfold fr_S_act; omega))]) (fun k => by rw [F2 250 k (by first | (simp [fr_M_act]; done) | (unfold fr_M_act; omega)), F1 250 k (by first | (simp [fr_S_act]; done) | (unfold fr_S_act; omega))])), zb_, (zRw_n (fun k => by rw [F2 5 k (by first | (simp [fr_M_act]; done) | (unfold fr_M_act; omega)), F1 5 k (by first | (simp [fr_S_act]; done) | (unfold fr_S_act; omega))]) (fun k => by rw [F2 220 k (by first | (simp [fr_M_act]; done) | (unfold fr_M_act; omega)), F1 220 k (by first | (simp [fr_S_act]; done) | (unfold fr_S_act; omega))]) R12), (fun q => zRw_nk (fun k => by rw [F2 50 k (by first | (simp [fr_M_act]; done) | (unfold fr_M_act; omega)), F1 50 k (by first | (simp [fr_S_act]; done) | (unfold fr_S_act; omega))]) (fun k => by rw [F2 250 k (by first | (simp [fr_M_act]; done) | (unfold fr_M_act; omega)), F1 250 k (by first | (simp [fr_S_act]; done) | (unfold fr_S_act; omega))]) (R13 (by omega))), (zRw_n (fun k => by rw [F2 3 k (by first | (simp [fr_M_act]; done) | (unfold fr_M_act; omega)), F1 3 k (by first | (simp [fr_S_act]; done) | (unfold fr_S_act; omega))]) (fun k => by rw [F2 218 k (by first | (simp [fr_M_act]; done) | (unfold fr_M_act; omega)), F1 218 k (by first | (simp [fr_S_act]; done) | (unfold fr_S_act; omega))]) R14), (fun q => zRw_nk (fun k => by rw [F2 48 k (by first | (simp [fr_M_act]; done) | (unfold fr_M_act; omega)), F1 48 k (by first | (simp [fr_S_act]; done) | (unfold fr_S_act; omega))]) (fun k => by rw [F2 250 k (by first | (simp [fr_M_act]; done) | (unfold fr_M_act; omega)), F1 250 k (by first | (simp [fr_S_act]; done) | (unfold fr_S_act; omega))]) (R15 (by omega))), (zRw_n (fun k => by rw [F2 4 k (by first | (simp [fr_M_act]; done) | (unfold fr_M_act; omega)), F1 4 k (by first | (simp [fr_S_act]; done) | (unfold fr_S_act; omega))]) (fun k => by rw [F2 219 k (by first | (simp [fr_M_act]; done) | (unfold fr_M_act; omega)), F1 219 k (by first | (simp [fr_S_act]; done) | (unfold fr_S_act; omega))]) R16), (fun q => zRw_nk (fun k => by rw [F2 49 k (by first | (simp [fr_M_act]; done) | (unfold fr_M_act; omega)), F1 49 k (by first | (simp [fr_S_act]; done) | (unfold fr_S_act; omega))]) (fun k => by rw [F2 250 k (by first | (simp [fr_M_act]; done) | (unfold fr_M_act; omega)), F1 250 k (by first | (simp [fr_S_act]; done) | (unfold fr_S_act; omega))]) (R17 (by omega))), (zLW_n R18 (show 0 ≤ g 224 0 ∧ g 224 0 ≤ 16 from I.1 224 0).2 (fun a i h => (F2 a i (zbg_M_actFlw h)).trans (F1 a i (zbg_S_actFlw h)))), (fun q => zLWk_n (R19 (by omega)) (fun a i h => (F2 a i (zbg_M_actFlk h)).trans (F1 a i (zbg_S_actFlk h)))), zf2_, Z2⟩
theorem zpf_M_days {a : Nat} {i : Int} (hc : zPc a i) : ¬ fr_M_days a i := fun w => by
  have ha := zPc_le hc
  unfold fr_M_days at w
  clear hc
  omega
theorem zbg_M_daysFlw {a : Nat} {i : Int} (h : zFlw a i) : ¬ fr_M_days a i := fun w => by
  unfold fr_M_days at w
  unfold zFlw at h
  omega
theorem zbg_S_daysFlw {a : Nat} {i : Int} (h : zFlw a i) : ¬ fr_S_days a i := fun w => by
  unfold fr_S_days at w
  unfold zFlw at h
  omega
theorem zbg_M_daysFlk {a : Nat} {i : Int} (h : zFlk a i) : ¬ fr_M_days a i := fun w => by
  unfold fr_M_days at w
  unfold zFlk at h
  omega
theorem zbg_S_daysFlk {a : Nat} {i : Int} (h : zFlk a i) : ¬ fr_S_days a i := fun w => by
  unfold fr_S_days at w
  unfold zFlk at h
  omega
set_option maxRecDepth 100000 in
set_option maxHeartbeats 4000000 in
theorem zw_c5 {E : sx_E} {i : Int} {g : zi_M} (hL : sx_Ln E ≤ 3072) (h0 : 0 ≤ i) (h6 : i + 6 ≤ ((sx_Ln E : Nat) : Int)) (R : zw_R g) (k : ∀ g' : zi_M, zw_R g' → zi_W E 420 326 1356 [some (.ref 1000000000), some (.ref 0), some (.ref 214), some (zi_i i)] [] g' zw_Q) : zi_W E 420 326 375 [some (.ref 1000000000), some (.ref 0), some (.ref 214), some (zi_i i)] [] g zw_Q := by
  obtain ⟨I, R0, R1, R2, R3, R4, R5, R6, R7, R8, R9, R10, R11, R12, R13, R14, R15, R16, R17, R18, R19, R20, R21⟩ := R
  refine zi_aload_n (pc' := 376) rfl rfl rfl ?_
  refine zi_aload_n (pc' := 377) rfl rfl rfl ?_
  refine zi_iload_n (pc' := 378) rfl rfl rfl ?_
  refine zi_iconst (pc' := 379) rfl rfl ?_
  refine zi_iadd (pc' := 380) rfl rfl ?_
  refine zi_xald (pc' := 381) rfl rfl hL ⟨by omega, by omega⟩ ?_
  refine zi_callV (d' := 8) (as := [_]) (pc' := 384) rfl rfl rfl rfl (by decide) (s_S_days (Q := fun v g' => zk_I g' ∧ zk_fr fr_S_days g g' ∧ ((-2147483648) ≤ v ∧ v ≤ 2147483647) ∧ (zP g → zP g') ∧ ((1 ≤ (zw_s E (i + 1)) ∧ (zw_s E (i + 1)) ≤ 60 ∧ zi_w (g 2 17 + (zw_s E (i + 1))) ≤ 9999) → zDF2 (zw_s E (i + 1)) g g') ∧ ((1 ≤ (zw_s E (i + 1)) ∧ (zw_s E (i + 1)) ≤ 60 ∧ zi_w (g 2 17 + (zw_s E (i + 1))) ≤ 9999) → v = zi_w (g' 2 15 - g 2 15)) ∧ (¬ (1 ≤ (zw_s E (i + 1)) ∧ (zw_s E (i + 1)) ≤ 60 ∧ zi_w (g 2 17 + (zw_s E (i + 1))) ≤ 9999) → v = -1 ∧ g' = g)) (Nat.le_refl _) (k_S_days I (zw_r _ _) (fun v g' I' F' h0 h1 h2 h3 h4 => ⟨I', F', h0, h1, h2, h3, h4⟩))) (zi_ki (fun v1 g1 h1 => ?_))
  obtain ⟨I1, F1, p1_0, p1_1, p1_2, p1_3, p1_4⟩ := h1
  have c1_0_2 : g1 0 2 = g 0 2 := F1 0 2 (by first | (simp [fr_S_days]; done) | (unfold fr_S_days; omega))
  have c1_0_8 : g1 0 8 = g 0 8 := F1 0 8 (by first | (simp [fr_S_days]; done) | (unfold fr_S_days; omega))
  have c1_2_8 : g1 2 8 = g 2 8 := F1 2 8 (by first | (simp [fr_S_days]; done) | (unfold fr_S_days; omega))
  have c1_2_11 : g1 2 11 = g 2 11 := F1 2 11 (by first | (simp [fr_S_days]; done) | (unfold fr_S_days; omega))
  have c1_47_8 : g1 47 8 = g 47 8 := F1 47 8 (by first | (simp [fr_S_days]; done) | (unfold fr_S_days; omega))
  have c1_47_11 : g1 47 11 = g 47 11 := F1 47 11 (by first | (simp [fr_S_days]; done) | (unfold fr_S_days; omega))
  have c1_214_6 : g1 214 6 = g 214 6 := F1 214 6 (by first | (simp [fr_S_days]; done) | (unfold fr_S_days; omega))
  have c1_214_7 : g1 214 7 = g 214 7 := F1 214 7 (by first | (simp [fr_S_days]; done) | (unfold fr_S_days; omega))
  have c1_214_13 : g1 214 13 = g 214 13 := F1 214 13 (by first | (simp [fr_S_days]; done) | (unfold fr_S_days; omega))
  have c1_214_62 : g1 214 62 = g 214 62 := F1 214 62 (by first | (simp [fr_S_days]; done) | (unfold fr_S_days; omega))
  have c1_250_264 : g1 250 264 = g 250 264 := F1 250 264 (by first | (simp [fr_S_days]; done) | (unfold fr_S_days; omega))
  have c1_250_265 : g1 250 265 = g 250 265 := F1 250 265 (by first | (simp [fr_S_days]; done) | (unfold fr_S_days; omega))
  have Z1 : zP g1 := p1_1 R21
  clear p1_1
  refine zi_pop (pc' := 385) rfl rfl rfl ?_
  refine zi_aload_n (pc' := 386) rfl rfl rfl ?_
  refine zi_aload_n (pc' := 387) rfl rfl rfl ?_
  refine zi_iload_n (pc' := 388) rfl rfl rfl ?_
  refine zi_iconst (pc' := 389) rfl rfl ?_
  refine zi_iadd (pc' := 390) rfl rfl ?_
  refine zi_xald (pc' := 391) rfl rfl hL ⟨by omega, by omega⟩ ?_
  refine zi_callV (d' := 10) (as := [_]) (pc' := 394) rfl rfl rfl rfl (by decide) (s_M_days (Q := fun v g' => zk_I g' ∧ zk_fr fr_M_days g1 g' ∧ ((-2147483648) ≤ v ∧ v ≤ 2147483647) ∧ ((1 ≤ (zw_s E (i + 1)) ∧ (zw_s E (i + 1)) ≤ 60 ∧ zi_w (g1 215 0 + (zw_s E (i + 1))) ≤ 9999) → zDM2 (zw_s E (i + 1)) g1 g') ∧ ((1 ≤ (zw_s E (i + 1)) ∧ (zw_s E (i + 1)) ≤ 60 ∧ zi_w (g1 215 0 + (zw_s E (i + 1))) ≤ 9999) → v = zi_w (g' 215 4 - g1 215 4)) ∧ (¬ (1 ≤ (zw_s E (i + 1)) ∧ (zw_s E (i + 1)) ≤ 60 ∧ zi_w (g1 215 0 + (zw_s E (i + 1))) ≤ 9999) → v = -1 ∧ ∃ x : Int, g' = zi_u g1 214 0 x)) (Nat.le_refl _) (k_M_days I1 (zw_r _ _) (fun v g' I' F' h0 h1 h2 h3 => ⟨I', F', h0, h1, h2, h3⟩))) (zi_ki (fun v2 g2 h2 => ?_))
  obtain ⟨I2, F2, p2_0, p2_1, p2_2, p2_3⟩ := h2
  have c2_0_2 : g2 0 2 = g1 0 2 := F2 0 2 (by first | (simp [fr_M_days]; done) | (unfold fr_M_days; omega))
  have c2_0_8 : g2 0 8 = g1 0 8 := F2 0 8 (by first | (simp [fr_M_days]; done) | (unfold fr_M_days; omega))
  have c2_2_8 : g2 2 8 = g1 2 8 := F2 2 8 (by first | (simp [fr_M_days]; done) | (unfold fr_M_days; omega))
  have c2_2_11 : g2 2 11 = g1 2 11 := F2 2 11 (by first | (simp [fr_M_days]; done) | (unfold fr_M_days; omega))
  have c2_47_8 : g2 47 8 = g1 47 8 := F2 47 8 (by first | (simp [fr_M_days]; done) | (unfold fr_M_days; omega))
  have c2_47_11 : g2 47 11 = g1 47 11 := F2 47 11 (by first | (simp [fr_M_days]; done) | (unfold fr_M_days; omega))
  have c2_214_6 : g2 214 6 = g1 214 6 := F2 214 6 (by first | (simp [fr_M_days]; done) | (unfold fr_M_days; omega))
  have c2_214_7 : g2 214 7 = g1 214 7 := F2 214 7 (by first | (simp [fr_M_days]; done) | (unfold fr_M_days; omega))
  have c2_214_13 : g2 214 13 = g1 214 13 := F2 214 13 (by first | (simp [fr_M_days]; done) | (unfold fr_M_days; omega))
  have c2_214_62 : g2 214 62 = g1 214 62 := F2 214 62 (by first | (simp [fr_M_days]; done) | (unfold fr_M_days; omega))
  have c2_250_264 : g2 250 264 = g1 250 264 := F2 250 264 (by first | (simp [fr_M_days]; done) | (unfold fr_M_days; omega))
  have c2_250_265 : g2 250 265 = g1 250 265 := F2 250 265 (by first | (simp [fr_M_days]; done) | (unfold fr_M_days; omega))
  have Z2 : zP g2 := zP_eq (fun a i hc => F2 a i (zpf_M_days hc)) Z1
  have zb_ : zBD g2 := zBD_days I I1 R11 R7 R3 R5 p1_2 p1_4 p2_1 p2_3 (fun a i h => F1 a i (fun w => by unfold fr_S_days at w; omega)) (fun a i h => F2 a i (fun w => by unfold fr_M_days at w; omega)) (fun a i h => by (try unfold zFt at h); exact (F2 a i (fun w => by unfold fr_M_days at w; omega)).trans (F1 a i (fun w => by unfold fr_S_days at w; omega)))
  have zf2_ : zFD g2 := zFD_days I I1 R20 R11 R7 R3 R5 (zCYM I R20.2.2.1 R11.2.2.1 R7 R9 R18 R14 R16 R12 R3 R5) p1_2 p1_4 p2_1 p2_3 (fun a i h => F1 a i (fun w => by unfold fr_S_days at w; omega)) (fun a i h => F2 a i (fun w => by unfold fr_M_days at w; omega)) (fun a i h => by unfold zFh at h; (exact (F2 a i (fun w => by unfold fr_M_days at w; omega)).trans (F1 a i (fun w => by unfold fr_S_days at w; omega))))
  refine zi_pop (pc' := 395) rfl rfl rfl ?_
  refine zi_goto (x := 1356) rfl ?_
  exact k _ ⟨I2, (by rw [c2_0_2, c1_0_2, c2_214_62, c1_214_62]; exact R0), (by rw [c2_0_8, c1_0_8, c2_214_13, c1_214_13]; exact R1), (funext fun k => by rw [F2 190 k (by first | (simp [fr_M_days]; done) | (unfold fr_M_days; omega)), F1 190 k (by first | (simp [fr_S_days]; done) | (unfold fr_S_days; omega)), F2 222 k (by first | (simp [fr_M_days]; done) | (unfold fr_M_days; omega)), F1 222 k (by first | (simp [fr_S_days]; done) | (unfold fr_S_days; omega))]; exact congrFun R2 k), (by rw [c2_2_8, c1_2_8, c2_214_6, c1_214_6]; exact R3), (fun q => by rw [c2_47_8, c1_47_8, c2_250_264, c1_250_264]; exact R4 (by rw [c2_0_2, c1_0_2] at q; exact q)), (by rw [c2_2_11, c1_2_11, c2_214_7, c1_214_7]; exact R5), (fun q => by rw [c2_47_11, c1_47_11, c2_250_265, c1_250_265]; exact R6 (by rw [c2_0_2, c1_0_2] at q; exact q)), (zXw_n R7 (by rw [F2 19 5 (by first | (simp [fr_M_days]; done) | (unfold fr_M_days; omega)), F1 19 5 (by first | (simp [fr_S_days]; done) | (unfold fr_S_days; omega))]) (by rw [F2 214 37 (by first | (simp [fr_M_days]; done) | (unfold fr_M_days; omega)), F1 214 37 (by first | (simp [fr_S_days]; done) | (unfold fr_S_days; omega))]) (fun k => by rw [F2 30 k (by first | (simp [fr_M_days]; done) | (unfold fr_M_days; omega)), F1 30 k (by first | (simp [fr_S_days]; done) | (unfold fr_S_days; omega))]) (fun k => by rw [F2 31 k (by first | (simp [fr_M_days]; done) | (unfold fr_M_days; omega)), F1 31 k (by first | (simp [fr_S_days]; done) | (unfold fr_S_days; omega))]) (fun k _ => by rw [F2 233 k (by first | (simp [fr_M_days]; done) | (unfold fr_M_days; omega)), F1 233 k (by first | (simp [fr_S_days]; done) | (unfold fr_S_days; omega))]) (show 0 ≤ g 19 5 ∧ g 19 5 ≤ 16 from I.1 19 5).2), (fun q => zXwk_n (R8 (by omega)) (by rw [F2 64 5 (by first | (simp [fr_M_days]; done) | (unfold fr_M_days; omega)), F1 64 5 (by first | (simp [fr_S_days]; done) | (unfold fr_S_days; omega))]) (fun k => by rw [F2 75 k (by first | (simp [fr_M_days]; done) | (unfold fr_M_days; omega)), F1 75 k (by first | (simp [fr_S_days]; done) | (unfold fr_S_days; omega))]) (fun k => by rw [F2 76 k (by first | (simp [fr_M_days]; done) | (unfold fr_M_days; omega)), F1 76 k (by first | (simp [fr_S_days]; done) | (unfold fr_S_days; omega))]) (fun k => by rw [F2 250 k (by first | (simp [fr_M_days]; done) | (unfold fr_M_days; omega)), F1 250 k (by first | (simp [fr_S_days]; done) | (unfold fr_S_days; omega))])), (zXg_n R9 (by rw [F2 19 2 (by first | (simp [fr_M_days]; done) | (unfold fr_M_days; omega)), F1 19 2 (by first | (simp [fr_S_days]; done) | (unfold fr_S_days; omega))]) (by rw [F2 214 35 (by first | (simp [fr_M_days]; done) | (unfold fr_M_days; omega)), F1 214 35 (by first | (simp [fr_S_days]; done) | (unfold fr_S_days; omega))]) (fun k => by rw [F2 29 k (by first | (simp [fr_M_days]; done) | (unfold fr_M_days; omega)), F1 29 k (by first | (simp [fr_S_days]; done) | (unfold fr_S_days; omega))]) (fun k _ => by rw [F2 232 k (by first | (simp [fr_M_days]; done) | (unfold fr_M_days; omega)), F1 232 k (by first | (simp [fr_S_days]; done) | (unfold fr_S_days; omega))])), (fun q => zXgk_n (R10 (by omega)) (by rw [F2 64 2 (by first | (simp [fr_M_days]; done) | (unfold fr_M_days; omega)), F1 64 2 (by first | (simp [fr_S_days]; done) | (unfold fr_S_days; omega))]) (fun k => by rw [F2 74 k (by first | (simp [fr_M_days]; done) | (unfold fr_M_days; omega)), F1 74 k (by first | (simp [fr_S_days]; done) | (unfold fr_S_days; omega))]) (fun k => by rw [F2 250 k (by first | (simp [fr_M_days]; done) | (unfold fr_M_days; omega)), F1 250 k (by first | (simp [fr_S_days]; done) | (unfold fr_S_days; omega))])), zb_, (zRw_n (fun k => by rw [F2 5 k (by first | (simp [fr_M_days]; done) | (unfold fr_M_days; omega)), F1 5 k (by first | (simp [fr_S_days]; done) | (unfold fr_S_days; omega))]) (fun k => by rw [F2 220 k (by first | (simp [fr_M_days]; done) | (unfold fr_M_days; omega)), F1 220 k (by first | (simp [fr_S_days]; done) | (unfold fr_S_days; omega))]) R12), (fun q => zRw_nk (fun k => by rw [F2 50 k (by first | (simp [fr_M_days]; done) | (unfold fr_M_days; omega)), F1 50 k (by first | (simp [fr_S_days]; done) | (unfold fr_S_days; omega))]) (fun k => by rw [F2 250 k (by first | (simp [fr_M_days]; done) | (unfold fr_M_days; omega)), F1 250 k (by first | (simp [fr_S_days]; done) | (unfold fr_S_days; omega))]) (R13 (by omega))), (zRw_n (fun k => by rw [F2 3 k (by first | (simp [fr_M_days]; done) | (unfold fr_M_days; omega)), F1 3 k (by first | (simp [fr_S_days]; done) | (unfold fr_S_days; omega))]) (fun k => by rw [F2 218 k (by first | (simp [fr_M_days]; done) | (unfold fr_M_days; omega)), F1 218 k (by first | (simp [fr_S_days]; done) | (unfold fr_S_days; omega))]) R14), (fun q => zRw_nk (fun k => by rw [F2 48 k (by first | (simp [fr_M_days]; done) | (unfold fr_M_days; omega)), F1 48 k (by first | (simp [fr_S_days]; done) | (unfold fr_S_days; omega))]) (fun k => by rw [F2 250 k (by first | (simp [fr_M_days]; done) | (unfold fr_M_days; omega)), F1 250 k (by first | (simp [fr_S_days]; done) | (unfold fr_S_days; omega))]) (R15 (by omega))), (zRw_n (fun k => by rw [F2 4 k (by first | (simp [fr_M_days]; done) | (unfold fr_M_days; omega)), F1 4 k (by first | (simp [fr_S_days]; done) | (unfold fr_S_days; omega))]) (fun k => by rw [F2 219 k (by first | (simp [fr_M_days]; done) | (unfold fr_M_days; omega)), F1 219 k (by first | (simp [fr_S_days]; done) | (unfold fr_S_days; omega))]) R16), (fun q => zRw_nk (fun k => by rw [F2 49 k (by first | (simp [fr_M_days]; done) | (unfold fr_M_days; omega)), F1 49 k (by first | (simp [fr_S_days]; done) | (unfold fr_S_days; omega))]) (fun k => by rw [F2 250 k (by first | (simp [fr_M_days]; done) | (unfold fr_M_days; omega)), F1 250 k (by first | (simp [fr_S_days]; done) | (unfold fr_S_days; omega))]) (R17 (by omega))), (zLW_n R18 (show 0 ≤ g 224 0 ∧ g 224 0 ≤ 16 from I.1 224 0).2 (fun a i h => (F2 a i (zbg_M_daysFlw h)).trans (F1 a i (zbg_S_daysFlw h)))), (fun q => zLWk_n (R19 (by omega)) (fun a i h => (F2 a i (zbg_M_daysFlk h)).trans (F1 a i (zbg_S_daysFlk h)))), zf2_, Z2⟩
