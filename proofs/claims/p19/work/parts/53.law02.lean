-- by program (wip/gen/mklaw.py)
theorem zpf_M_act {a : Nat} {i : Int} (hc : zPc a i) : ¬ fr_M_act a i := fun w => by
  have ha := zPc_le hc
  unfold fr_M_act at w
  clear hc
  omega
set_option maxRecDepth 100000 in
set_option maxHeartbeats 4000000 in
theorem zw_c4 {E : sx_E} {i : Int} {g : zi_M} (hL : sx_Ln E ≤ 3072) (h0 : 0 ≤ i) (h6 : i + 6 ≤ ((sx_Ln E : Nat) : Int)) (R : zw_R g) (k : ∀ g' : zi_M, zw_R g' → zi_W E 420 326 1356 [some (.ref 1000000000), some (.ref 0), some (.ref 214), some (zi_i i)] [] g' zw_Q) : zi_W E 420 326 332 [some (.ref 1000000000), some (.ref 0), some (.ref 214), some (zi_i i)] [] g zw_Q := by
  obtain ⟨I, R0, R1, R2, R3, R4, R5, R6, R7, R8, R9⟩ := R
  refine zi_aload_n (pc' := 333) rfl rfl rfl ?_
  refine zi_aload_n (pc' := 334) rfl rfl rfl ?_
  refine zi_iload_n (pc' := 335) rfl rfl rfl ?_
  refine zi_iconst (pc' := 336) rfl rfl ?_
  refine zi_iadd (pc' := 337) rfl rfl ?_
  refine zi_xald (pc' := 338) rfl rfl hL ⟨by omega, by omega⟩ ?_
  refine zi_aload_n (pc' := 339) rfl rfl rfl ?_
  refine zi_iload_n (pc' := 340) rfl rfl rfl ?_
  refine zi_iconst (pc' := 341) rfl rfl ?_
  refine zi_iadd (pc' := 342) rfl rfl ?_
  refine zi_xald (pc' := 343) rfl rfl hL ⟨by omega, by omega⟩ ?_
  refine zi_aload_n (pc' := 344) rfl rfl rfl ?_
  refine zi_iload_n (pc' := 345) rfl rfl rfl ?_
  refine zi_iconst (pc' := 346) rfl rfl ?_
  refine zi_iadd (pc' := 347) rfl rfl ?_
  refine zi_xald (pc' := 348) rfl rfl hL ⟨by omega, by omega⟩ ?_
  refine zi_callV (d' := 4) (as := [_, _, _]) (pc' := 351) rfl rfl rfl rfl (by decide) (s_S_act (Q := fun v g' => zk_I g' ∧ zk_fr fr_S_act g g' ∧ (0 ≤ v ∧ v ≤ 1) ∧ (zPa (g 2 8) (g 2 11) (zw_s E (i + 1)) (zw_s E (i + 2)) (zw_s E (i + 3)) → v = 1) ∧ (¬ zPa (g 2 8) (g 2 11) (zw_s E (i + 1)) (zw_s E (i + 2)) (zw_s E (i + 3)) → v = 0) ∧ (zP g → zP g')) (Nat.le_refl _) (k_S_act I (zw_r _ _) (zw_r _ _) (zw_r _ _) (fun v g' I' F' h0 h1 h2 h3 => ⟨I', F', h0, h1, h2, h3⟩))) (zi_kb (fun v1 g1 b1 h1 => ?_))
  obtain ⟨I1, F1, p1_0, p1_1, p1_2, p1_3⟩ := h1
  have c1_0_2 : g1 0 2 = g 0 2 := F1 0 2 (by first | (simp [fr_S_act]; done) | (unfold fr_S_act; omega))
  have c1_0_8 : g1 0 8 = g 0 8 := F1 0 8 (by first | (simp [fr_S_act]; done) | (unfold fr_S_act; omega))
  have c1_2_8 : g1 2 8 = g 2 8 := F1 2 8 (by first | (simp [fr_S_act]; done) | (unfold fr_S_act; omega))
  have c1_2_11 : g1 2 11 = g 2 11 := F1 2 11 (by first | (simp [fr_S_act]; done) | (unfold fr_S_act; omega))
  have c1_47_8 : g1 47 8 = g 47 8 := F1 47 8 (by first | (simp [fr_S_act]; done) | (unfold fr_S_act; omega))
  have c1_47_11 : g1 47 11 = g 47 11 := F1 47 11 (by first | (simp [fr_S_act]; done) | (unfold fr_S_act; omega))
  have c1_214_6 : g1 214 6 = g 214 6 := F1 214 6 (by first | (simp [fr_S_act]; done) | (unfold fr_S_act; omega))
  have c1_214_7 : g1 214 7 = g 214 7 := F1 214 7 (by first | (simp [fr_S_act]; done) | (unfold fr_S_act; omega))
  have c1_214_13 : g1 214 13 = g 214 13 := F1 214 13 (by first | (simp [fr_S_act]; done) | (unfold fr_S_act; omega))
  have c1_214_62 : g1 214 62 = g 214 62 := F1 214 62 (by first | (simp [fr_S_act]; done) | (unfold fr_S_act; omega))
  have c1_250_264 : g1 250 264 = g 250 264 := F1 250 264 (by first | (simp [fr_S_act]; done) | (unfold fr_S_act; omega))
  have c1_250_265 : g1 250 265 = g 250 265 := F1 250 265 (by first | (simp [fr_S_act]; done) | (unfold fr_S_act; omega))
  have Z1 : zP g1 := p1_3 R9
  clear p1_3
  refine zi_pop (pc' := 352) rfl rfl rfl ?_
  refine zi_aload_n (pc' := 353) rfl rfl rfl ?_
  refine zi_aload_n (pc' := 354) rfl rfl rfl ?_
  refine zi_iload_n (pc' := 355) rfl rfl rfl ?_
  refine zi_iconst (pc' := 356) rfl rfl ?_
  refine zi_iadd (pc' := 357) rfl rfl ?_
  refine zi_xald (pc' := 358) rfl rfl hL ⟨by omega, by omega⟩ ?_
  refine zi_aload_n (pc' := 359) rfl rfl rfl ?_
  refine zi_iload_n (pc' := 360) rfl rfl rfl ?_
  refine zi_iconst (pc' := 361) rfl rfl ?_
  refine zi_iadd (pc' := 362) rfl rfl ?_
  refine zi_xald (pc' := 363) rfl rfl hL ⟨by omega, by omega⟩ ?_
  refine zi_aload_n (pc' := 364) rfl rfl rfl ?_
  refine zi_iload_n (pc' := 365) rfl rfl rfl ?_
  refine zi_iconst (pc' := 366) rfl rfl ?_
  refine zi_iadd (pc' := 367) rfl rfl ?_
  refine zi_xald (pc' := 368) rfl rfl hL ⟨by omega, by omega⟩ ?_
  refine zi_callV (d' := 3) (as := [_, _, _]) (pc' := 371) rfl rfl rfl rfl (by decide) (s_M_act (Q := fun v g' => zk_I g' ∧ zk_fr fr_M_act g1 g') (Nat.le_refl _) (k_M_act I1 (zw_r _ _) (zw_r _ _) (zw_r _ _) (fun v g' I' F' h0 h1 h2 => ⟨I', F'⟩))) (zi_kb (fun v2 g2 b2 h2 => ?_))
  obtain ⟨I2, F2⟩ := h2
  have c2_0_2 : g2 0 2 = g1 0 2 := F2 0 2 (by first | (simp [fr_M_act]; done) | (unfold fr_M_act; omega))
  have c2_0_8 : g2 0 8 = g1 0 8 := F2 0 8 (by first | (simp [fr_M_act]; done) | (unfold fr_M_act; omega))
  have c2_2_8 : g2 2 8 = g1 2 8 := F2 2 8 (by first | (simp [fr_M_act]; done) | (unfold fr_M_act; omega))
  have c2_2_11 : g2 2 11 = g1 2 11 := F2 2 11 (by first | (simp [fr_M_act]; done) | (unfold fr_M_act; omega))
  have c2_47_8 : g2 47 8 = g1 47 8 := F2 47 8 (by first | (simp [fr_M_act]; done) | (unfold fr_M_act; omega))
  have c2_47_11 : g2 47 11 = g1 47 11 := F2 47 11 (by first | (simp [fr_M_act]; done) | (unfold fr_M_act; omega))
  have c2_214_6 : g2 214 6 = g1 214 6 := F2 214 6 (by first | (simp [fr_M_act]; done) | (unfold fr_M_act; omega))
  have c2_214_7 : g2 214 7 = g1 214 7 := F2 214 7 (by first | (simp [fr_M_act]; done) | (unfold fr_M_act; omega))
  have c2_214_13 : g2 214 13 = g1 214 13 := F2 214 13 (by first | (simp [fr_M_act]; done) | (unfold fr_M_act; omega))
  have c2_214_62 : g2 214 62 = g1 214 62 := F2 214 62 (by first | (simp [fr_M_act]; done) | (unfold fr_M_act; omega))
  have c2_250_264 : g2 250 264 = g1 250 264 := F2 250 264 (by first | (simp [fr_M_act]; done) | (unfold fr_M_act; omega))
  have c2_250_265 : g2 250 265 = g1 250 265 := F2 250 265 (by first | (simp [fr_M_act]; done) | (unfold fr_M_act; omega))
  have Z2 : zP g2 := zP_eq (fun a i hc => F2 a i (zpf_M_act hc)) Z1
  refine zi_pop (pc' := 372) rfl rfl rfl ?_
  refine zi_goto (x := 1356) rfl ?_
  exact k _ ⟨I2, (by rw [c2_0_2, c1_0_2, c2_214_62, c1_214_62]; exact R0), (by rw [c2_0_8, c1_0_8, c2_214_13, c1_214_13]; exact R1), (funext fun k => by rw [F2 190 k (by first | (simp [fr_M_act]; done) | (unfold fr_M_act; omega)), F1 190 k (by first | (simp [fr_S_act]; done) | (unfold fr_S_act; omega)), F2 222 k (by first | (simp [fr_M_act]; done) | (unfold fr_M_act; omega)), F1 222 k (by first | (simp [fr_S_act]; done) | (unfold fr_S_act; omega))]; exact congrFun R2 k), (by rw [c2_2_8, c1_2_8, c2_214_6, c1_214_6]; exact R3), (fun q => by rw [c2_47_8, c1_47_8, c2_250_264, c1_250_264]; exact R4 (by rw [c2_0_2, c1_0_2] at q; exact q)), (by rw [c2_2_11, c1_2_11, c2_214_7, c1_214_7]; exact R5), (fun q => by rw [c2_47_11, c1_47_11, c2_250_265, c1_250_265]; exact R6 (by rw [c2_0_2, c1_0_2] at q; exact q)), (zXg_n R7 (by rw [F2 19 2 (by first | (simp [fr_M_act]; done) | (unfold fr_M_act; omega)), F1 19 2 (by first | (simp [fr_S_act]; done) | (unfold fr_S_act; omega))]) (by rw [F2 214 35 (by first | (simp [fr_M_act]; done) | (unfold fr_M_act; omega)), F1 214 35 (by first | (simp [fr_S_act]; done) | (unfold fr_S_act; omega))]) (fun k => by rw [F2 29 k (by first | (simp [fr_M_act]; done) | (unfold fr_M_act; omega)), F1 29 k (by first | (simp [fr_S_act]; done) | (unfold fr_S_act; omega))]) (fun k _ => by rw [F2 232 k (by first | (simp [fr_M_act]; done) | (unfold fr_M_act; omega)), F1 232 k (by first | (simp [fr_S_act]; done) | (unfold fr_S_act; omega))])), (fun q => zXgk_n (R8 (by omega)) (by rw [F2 64 2 (by first | (simp [fr_M_act]; done) | (unfold fr_M_act; omega)), F1 64 2 (by first | (simp [fr_S_act]; done) | (unfold fr_S_act; omega))]) (fun k => by rw [F2 74 k (by first | (simp [fr_M_act]; done) | (unfold fr_M_act; omega)), F1 74 k (by first | (simp [fr_S_act]; done) | (unfold fr_S_act; omega))]) (fun k => by rw [F2 250 k (by first | (simp [fr_M_act]; done) | (unfold fr_M_act; omega)), F1 250 k (by first | (simp [fr_S_act]; done) | (unfold fr_S_act; omega))])), Z2⟩
theorem zpf_M_days {a : Nat} {i : Int} (hc : zPc a i) : ¬ fr_M_days a i := fun w => by
  have ha := zPc_le hc
  unfold fr_M_days at w
  clear hc
  omega
set_option maxRecDepth 100000 in
set_option maxHeartbeats 4000000 in
theorem zw_c5 {E : sx_E} {i : Int} {g : zi_M} (hL : sx_Ln E ≤ 3072) (h0 : 0 ≤ i) (h6 : i + 6 ≤ ((sx_Ln E : Nat) : Int)) (R : zw_R g) (k : ∀ g' : zi_M, zw_R g' → zi_W E 420 326 1356 [some (.ref 1000000000), some (.ref 0), some (.ref 214), some (zi_i i)] [] g' zw_Q) : zi_W E 420 326 375 [some (.ref 1000000000), some (.ref 0), some (.ref 214), some (zi_i i)] [] g zw_Q := by
  obtain ⟨I, R0, R1, R2, R3, R4, R5, R6, R7, R8, R9⟩ := R
  refine zi_aload_n (pc' := 376) rfl rfl rfl ?_
  refine zi_aload_n (pc' := 377) rfl rfl rfl ?_
  refine zi_iload_n (pc' := 378) rfl rfl rfl ?_
  refine zi_iconst (pc' := 379) rfl rfl ?_
  refine zi_iadd (pc' := 380) rfl rfl ?_
  refine zi_xald (pc' := 381) rfl rfl hL ⟨by omega, by omega⟩ ?_
  refine zi_callV (d' := 8) (as := [_]) (pc' := 384) rfl rfl rfl rfl (by decide) (s_S_days (Q := fun v g' => zk_I g' ∧ zk_fr fr_S_days g g' ∧ ((-2147483648) ≤ v ∧ v ≤ 2147483647) ∧ (zP g → zP g')) (Nat.le_refl _) (k_S_days I (zw_r _ _) (fun v g' I' F' h0 h1 => ⟨I', F', h0, h1⟩))) (zi_ki (fun v1 g1 h1 => ?_))
  obtain ⟨I1, F1, p1_0, p1_1⟩ := h1
  have c1_0_2 : g1 0 2 = g 0 2 := F1 0 2 (by first | (simp [fr_S_days]; done) | (unfold fr_S_days; omega))
  have c1_0_8 : g1 0 8 = g 0 8 := F1 0 8 (by first | (simp [fr_S_days]; done) | (unfold fr_S_days; omega))
  have c1_2_8 : g1 2 8 = g 2 8 := F1 2 8 (by first | (simp [fr_S_days]; done) | (unfold fr_S_days; omega))
  have c1_2_11 : g1 2 11 = g 2 11 := F1 2 11 (by first | (simp [fr_S_days]; done) | (unfold fr_S_days; omega))
  have c1_47_8 : g1 47 8 = g 47 8 := F1 47 8 (by first | (simp [fr_S_days]; done) | (unfold fr_S_days; omega))
  have c1_47_11 : g1 47 11 = g 47 11 := F1 47 11 (by first | (simp [fr_S_days]; done) | (unfold fr_S_days; omega))
  have c1_214_6 : g1 214 6 = g 214 6 := F1 214 6 (by first | (simp [fr_S_days]; done) | (unfold fr_S_days; omega))
  have c1_214_7 : g1 214 7 = g 214 7 := F1 214 7 (by first | (simp [fr_S_days]; done) | (unfold fr_S_days; omega))
  have c1_214_13 : g1 214 13 = g 214 13 := F1 214 13 (by first | (simp [fr_S_days]; done) | (unfold fr_S_days; omega))
  have c1_214_62 : g1 214 62 = g 214 62 := F1 214 62 (by first | (simp [fr_S_days]; done) | (unfold fr_S_days; omega))
  have c1_250_264 : g1 250 264 = g 250 264 := F1 250 264 (by first | (simp [fr_S_days]; done) | (unfold fr_S_days; omega))
  have c1_250_265 : g1 250 265 = g 250 265 := F1 250 265 (by first | (simp [fr_S_days]; done) | (unfold fr_S_days; omega))
  have Z1 : zP g1 := p1_1 R9
  clear p1_1
  refine zi_pop (pc' := 385) rfl rfl rfl ?_
  refine zi_aload_n (pc' := 386) rfl rfl rfl ?_
  refine zi_aload_n (pc' := 387) rfl rfl rfl ?_
  refine zi_iload_n (pc' := 388) rfl rfl rfl ?_
  refine zi_iconst (pc' := 389) rfl rfl ?_
  refine zi_iadd (pc' := 390) rfl rfl ?_
  refine zi_xald (pc' := 391) rfl rfl hL ⟨by omega, by omega⟩ ?_
  refine zi_callV (d' := 10) (as := [_]) (pc' := 394) rfl rfl rfl rfl (by decide) (s_M_days (Q := fun v g' => zk_I g' ∧ zk_fr fr_M_days g1 g') (Nat.le_refl _) (k_M_days I1 (zw_r _ _) (fun v g' I' F' h0 => ⟨I', F'⟩))) (zi_ki (fun v2 g2 h2 => ?_))
  obtain ⟨I2, F2⟩ := h2
  have c2_0_2 : g2 0 2 = g1 0 2 := F2 0 2 (by first | (simp [fr_M_days]; done) | (unfold fr_M_days; omega))
  have c2_0_8 : g2 0 8 = g1 0 8 := F2 0 8 (by first | (simp [fr_M_days]; done) | (unfold fr_M_days; omega))
  have c2_2_8 : g2 2 8 = g1 2 8 := F2 2 8 (by first | (simp [fr_M_days]; done) | (unfold fr_M_days; omega))
  have c2_2_11 : g2 2 11 = g1 2 11 := F2 2 11 (by first | (simp [fr_M_days]; done) | (unfold fr_M_days; omega))
  have c2_47_8 : g2 47 8 = g1 47 8 := F2 47 8 (by first | (simp [fr_M_days]; done) | (unfold fr_M_days; omega))
  have c2_47_11 : g2 47 11 = g1 47 11 := F2 47 11 (by first | (simp [fr_M_days]; done) | (unfold fr_M_days; omega))
  have c2_214_6 : g2 214 6 = g1 214 6 := F2 214 6 (by first | (simp [fr_M_days]; done) | (unfold fr_M_days; omega))
  have c2_214_7 : g2 214 7 = g1 214 7 := F2 214 7 (by first | (simp [fr_M_days]; done) | (unfold fr_M_days; omega))
  have c2_214_13 : g2 214 13 = g1 214 13 := F2 214 13 (by first | (simp [fr_M_days]; done) | (unfold fr_M_days; omega))
  have c2_214_62 : g2 214 62 = g1 214 62 := F2 214 62 (by first | (simp [fr_M_days]; done) | (unfold fr_M_days; omega))
  have c2_250_264 : g2 250 264 = g1 250 264 := F2 250 264 (by first | (simp [fr_M_days]; done) | (unfold fr_M_days; omega))
  have c2_250_265 : g2 250 265 = g1 250 265 := F2 250 265 (by first | (simp [fr_M_days]; done) | (unfold fr_M_days; omega))
  have Z2 : zP g2 := zP_eq (fun a i hc => F2 a i (zpf_M_days hc)) Z1
  refine zi_pop (pc' := 395) rfl rfl rfl ?_
  refine zi_goto (x := 1356) rfl ?_
  exact k _ ⟨I2, (by rw [c2_0_2, c1_0_2, c2_214_62, c1_214_62]; exact R0), (by rw [c2_0_8, c1_0_8, c2_214_13, c1_214_13]; exact R1), (funext fun k => by rw [F2 190 k (by first | (simp [fr_M_days]; done) | (unfold fr_M_days; omega)), F1 190 k (by first | (simp [fr_S_days]; done) | (unfold fr_S_days; omega)), F2 222 k (by first | (simp [fr_M_days]; done) | (unfold fr_M_days; omega)), F1 222 k (by first | (simp [fr_S_days]; done) | (unfold fr_S_days; omega))]; exact congrFun R2 k), (by rw [c2_2_8, c1_2_8, c2_214_6, c1_214_6]; exact R3), (fun q => by rw [c2_47_8, c1_47_8, c2_250_264, c1_250_264]; exact R4 (by rw [c2_0_2, c1_0_2] at q; exact q)), (by rw [c2_2_11, c1_2_11, c2_214_7, c1_214_7]; exact R5), (fun q => by rw [c2_47_11, c1_47_11, c2_250_265, c1_250_265]; exact R6 (by rw [c2_0_2, c1_0_2] at q; exact q)), (zXg_n R7 (by rw [F2 19 2 (by first | (simp [fr_M_days]; done) | (unfold fr_M_days; omega)), F1 19 2 (by first | (simp [fr_S_days]; done) | (unfold fr_S_days; omega))]) (by rw [F2 214 35 (by first | (simp [fr_M_days]; done) | (unfold fr_M_days; omega)), F1 214 35 (by first | (simp [fr_S_days]; done) | (unfold fr_S_days; omega))]) (fun k => by rw [F2 29 k (by first | (simp [fr_M_days]; done) | (unfold fr_M_days; omega)), F1 29 k (by first | (simp [fr_S_days]; done) | (unfold fr_S_days; omega))]) (fun k _ => by rw [F2 232 k (by first | (simp [fr_M_days]; done) | (unfold fr_M_days; omega)), F1 232 k (by first | (simp [fr_S_days]; done) | (unfold fr_S_days; omega))])), (fun q => zXgk_n (R8 (by omega)) (by rw [F2 64 2 (by first | (simp [fr_M_days]; done) | (unfold fr_M_days; omega)), F1 64 2 (by first | (simp [fr_S_days]; done) | (unfold fr_S_days; omega))]) (fun k => by rw [F2 74 k (by first | (simp [fr_M_days]; done) | (unfold fr_M_days; omega)), F1 74 k (by first | (simp [fr_S_days]; done) | (unfold fr_S_days; omega))]) (fun k => by rw [F2 250 k (by first | (simp [fr_M_days]; done) | (unfold fr_M_days; omega)), F1 250 k (by first | (simp [fr_S_days]; done) | (unfold fr_S_days; omega))])), Z2⟩
theorem zpf_S_feed {a : Nat} {i : Int} (hc : zPc a i) : ¬ fr_S_feed a i := fun w => by
  unfold fr_S_feed at w
  unfold zPc at hc
  omega
theorem zpf_M_feed {a : Nat} {i : Int} (hc : zPc a i) : ¬ fr_M_feed a i := fun w => by
  have ha := zPc_le hc
  unfold fr_M_feed at w
  clear hc
  omega
set_option maxRecDepth 100000 in
set_option maxHeartbeats 4000000 in
theorem zw_c6 {E : sx_E} {i : Int} {g : zi_M} (hL : sx_Ln E ≤ 3072) (h0 : 0 ≤ i) (h6 : i + 6 ≤ ((sx_Ln E : Nat) : Int)) (R : zw_R g) (k : ∀ g' : zi_M, zw_R g' → zi_W E 420 326 1356 [some (.ref 1000000000), some (.ref 0), some (.ref 214), some (zi_i i)] [] g' zw_Q) : zi_W E 420 326 398 [some (.ref 1000000000), some (.ref 0), some (.ref 214), some (zi_i i)] [] g zw_Q := by
  obtain ⟨I, R0, R1, R2, R3, R4, R5, R6, R7, R8, R9⟩ := R
  refine zi_aload_n (pc' := 399) rfl rfl rfl ?_
  refine zi_aload_n (pc' := 400) rfl rfl rfl ?_
  refine zi_iload_n (pc' := 401) rfl rfl rfl ?_
  refine zi_iconst (pc' := 402) rfl rfl ?_
  refine zi_iadd (pc' := 403) rfl rfl ?_
  refine zi_xald (pc' := 404) rfl rfl hL ⟨by omega, by omega⟩ ?_
  refine zi_aload_n (pc' := 405) rfl rfl rfl ?_
  refine zi_iload_n (pc' := 406) rfl rfl rfl ?_
  refine zi_iconst (pc' := 407) rfl rfl ?_
  refine zi_iadd (pc' := 408) rfl rfl ?_
  refine zi_xald (pc' := 409) rfl rfl hL ⟨by omega, by omega⟩ ?_
  refine zi_aload_n (pc' := 410) rfl rfl rfl ?_
  refine zi_iload_n (pc' := 411) rfl rfl rfl ?_
  refine zi_iconst (pc' := 412) rfl rfl ?_
  refine zi_iadd (pc' := 413) rfl rfl ?_
  refine zi_xald (pc' := 414) rfl rfl hL ⟨by omega, by omega⟩ ?_
  refine zi_aload_n (pc' := 415) rfl rfl rfl ?_
  refine zi_iload_n (pc' := 416) rfl rfl rfl ?_
  refine zi_iconst (pc' := 417) rfl rfl ?_
  refine zi_iadd (pc' := 418) rfl rfl ?_
  refine zi_xald (pc' := 419) rfl rfl hL ⟨by omega, by omega⟩ ?_
  refine zi_aload_n (pc' := 420) rfl rfl rfl ?_
  refine zi_iload_n (pc' := 421) rfl rfl rfl ?_
  refine zi_iconst (pc' := 422) rfl rfl ?_
  refine zi_iadd (pc' := 423) rfl rfl ?_
  refine zi_xald (pc' := 424) rfl rfl hL ⟨by omega, by omega⟩ ?_
  refine zi_callV (d' := 2) (as := [_, _, _, _, _]) (pc' := 427) rfl rfl rfl rfl (by decide) (s_S_feed (Q := fun v g' => zk_I g' ∧ zk_fr fr_S_feed g g' ∧ ((-1) ≤ v ∧ v ≤ 400) ∧ (g 0 8 ≤ 380 → v = g 0 8 + 20 ∧ g' 0 8 = g 0 8 + 20) ∧ (380 < g 0 8 → v = -1 ∧ g' 0 8 = g 0 8) ∧ (g 0 8 ≤ 380 → g' 190 = zfd (g 190) (g 0 8) (zw_s E (i + 1)) (zw_s E (i + 2)) (zw_s E (i + 3)) (zw_s E (i + 4)) (zw_s E (i + 5))) ∧ (380 < g 0 8 → g' 190 = g 190)) (Nat.le_refl _) (k_S_feed I (zw_r _ _) (zw_r _ _) (zw_r _ _) (zw_r _ _) (zw_r _ _) (fun v g' I' F' h0 h1 h2 h3 h4 => ⟨I', F', h0, h1, h2, h3, h4⟩))) (zi_ki (fun v1 g1 h1 => ?_))
  obtain ⟨I1, F1, p1_0, p1_1, p1_2, p1_3, p1_4⟩ := h1
  have c1_0_2 : g1 0 2 = g 0 2 := F1 0 2 (by first | (simp [fr_S_feed]; done) | (unfold fr_S_feed; omega))
  have c1_2_8 : g1 2 8 = g 2 8 := F1 2 8 (by first | (simp [fr_S_feed]; done) | (unfold fr_S_feed; omega))
  have c1_2_11 : g1 2 11 = g 2 11 := F1 2 11 (by first | (simp [fr_S_feed]; done) | (unfold fr_S_feed; omega))
  have c1_47_8 : g1 47 8 = g 47 8 := F1 47 8 (by first | (simp [fr_S_feed]; done) | (unfold fr_S_feed; omega))
  have c1_47_11 : g1 47 11 = g 47 11 := F1 47 11 (by first | (simp [fr_S_feed]; done) | (unfold fr_S_feed; omega))
  have c1_214_6 : g1 214 6 = g 214 6 := F1 214 6 (by first | (simp [fr_S_feed]; done) | (unfold fr_S_feed; omega))
  have c1_214_7 : g1 214 7 = g 214 7 := F1 214 7 (by first | (simp [fr_S_feed]; done) | (unfold fr_S_feed; omega))
  have c1_214_13 : g1 214 13 = g 214 13 := F1 214 13 (by first | (simp [fr_S_feed]; done) | (unfold fr_S_feed; omega))
  have c1_214_62 : g1 214 62 = g 214 62 := F1 214 62 (by first | (simp [fr_S_feed]; done) | (unfold fr_S_feed; omega))
  have c1_250_264 : g1 250 264 = g 250 264 := F1 250 264 (by first | (simp [fr_S_feed]; done) | (unfold fr_S_feed; omega))
  have c1_250_265 : g1 250 265 = g 250 265 := F1 250 265 (by first | (simp [fr_S_feed]; done) | (unfold fr_S_feed; omega))
  have Z1 : zP g1 := zP_eq (fun a i hc => F1 a i (zpf_S_feed hc)) R9
  refine zi_pop (pc' := 428) rfl rfl rfl ?_
  refine zi_aload_n (pc' := 429) rfl rfl rfl ?_
  refine zi_aload_n (pc' := 430) rfl rfl rfl ?_
  refine zi_iload_n (pc' := 431) rfl rfl rfl ?_
  refine zi_iconst (pc' := 432) rfl rfl ?_
  refine zi_iadd (pc' := 433) rfl rfl ?_
  refine zi_xald (pc' := 434) rfl rfl hL ⟨by omega, by omega⟩ ?_
  refine zi_aload_n (pc' := 435) rfl rfl rfl ?_
  refine zi_iload_n (pc' := 436) rfl rfl rfl ?_
  refine zi_iconst (pc' := 437) rfl rfl ?_
  refine zi_iadd (pc' := 438) rfl rfl ?_
  refine zi_xald (pc' := 439) rfl rfl hL ⟨by omega, by omega⟩ ?_
  refine zi_aload_n (pc' := 440) rfl rfl rfl ?_
  refine zi_iload_n (pc' := 441) rfl rfl rfl ?_
  refine zi_iconst (pc' := 442) rfl rfl ?_
  refine zi_iadd (pc' := 443) rfl rfl ?_
  refine zi_xald (pc' := 444) rfl rfl hL ⟨by omega, by omega⟩ ?_
  refine zi_aload_n (pc' := 445) rfl rfl rfl ?_
  refine zi_iload_n (pc' := 446) rfl rfl rfl ?_
  refine zi_iconst (pc' := 447) rfl rfl ?_
  refine zi_iadd (pc' := 448) rfl rfl ?_
  refine zi_xald (pc' := 449) rfl rfl hL ⟨by omega, by omega⟩ ?_
  refine zi_aload_n (pc' := 450) rfl rfl rfl ?_
  refine zi_iload_n (pc' := 451) rfl rfl rfl ?_
  refine zi_iconst (pc' := 452) rfl rfl ?_
  refine zi_iadd (pc' := 453) rfl rfl ?_
  refine zi_xald (pc' := 454) rfl rfl hL ⟨by omega, by omega⟩ ?_
  refine zi_callV (d' := 2) (as := [_, _, _, _, _]) (pc' := 457) rfl rfl rfl rfl (by decide) (s_M_feed (Q := fun v g' => zk_I g' ∧ zk_fr fr_M_feed g1 g' ∧ ((-1) ≤ v ∧ v ≤ 400) ∧ (g1 214 13 ≤ 380 → v = g1 214 13 + 20 ∧ g' 214 13 = g1 214 13 + 20) ∧ (380 < g1 214 13 → v = -1 ∧ g' 214 13 = g1 214 13) ∧ (g1 214 13 ≤ 380 → g' 222 = zfd (g1 222) (g1 214 13) (zw_s E (i + 1)) (zw_s E (i + 2)) (zw_s E (i + 3)) (zw_s E (i + 4)) (zw_s E (i + 5))) ∧ (380 < g1 214 13 → g' 222 = g1 222)) (Nat.le_refl _) (k_M_feed I1 (zw_r _ _) (zw_r _ _) (zw_r _ _) (zw_r _ _) (zw_r _ _) (fun v g' I' F' h0 h1 h2 h3 h4 => ⟨I', F', h0, h1, h2, h3, h4⟩))) (zi_ki (fun v2 g2 h2 => ?_))
  obtain ⟨I2, F2, p2_0, p2_1, p2_2, p2_3, p2_4⟩ := h2
  have c2_0_2 : g2 0 2 = g1 0 2 := F2 0 2 (by first | (simp [fr_M_feed]; done) | (unfold fr_M_feed; omega))
  have c2_0_8 : g2 0 8 = g1 0 8 := F2 0 8 (by first | (simp [fr_M_feed]; done) | (unfold fr_M_feed; omega))
  have c2_2_8 : g2 2 8 = g1 2 8 := F2 2 8 (by first | (simp [fr_M_feed]; done) | (unfold fr_M_feed; omega))
  have c2_2_11 : g2 2 11 = g1 2 11 := F2 2 11 (by first | (simp [fr_M_feed]; done) | (unfold fr_M_feed; omega))
  have c2_47_8 : g2 47 8 = g1 47 8 := F2 47 8 (by first | (simp [fr_M_feed]; done) | (unfold fr_M_feed; omega))
  have c2_47_11 : g2 47 11 = g1 47 11 := F2 47 11 (by first | (simp [fr_M_feed]; done) | (unfold fr_M_feed; omega))
  have c2_214_6 : g2 214 6 = g1 214 6 := F2 214 6 (by first | (simp [fr_M_feed]; done) | (unfold fr_M_feed; omega))
  have c2_214_7 : g2 214 7 = g1 214 7 := F2 214 7 (by first | (simp [fr_M_feed]; done) | (unfold fr_M_feed; omega))
  have c2_214_62 : g2 214 62 = g1 214 62 := F2 214 62 (by first | (simp [fr_M_feed]; done) | (unfold fr_M_feed; omega))
  have c2_250_264 : g2 250 264 = g1 250 264 := F2 250 264 (by first | (simp [fr_M_feed]; done) | (unfold fr_M_feed; omega))
  have c2_250_265 : g2 250 265 = g1 250 265 := F2 250 265 (by first | (simp [fr_M_feed]; done) | (unfold fr_M_feed; omega))
  have ta_ : g2 190 = g2 222 := zTA_f R2 R1 p1_3 p1_4 p2_3 p2_4 (fun k => F1 222 k (by first | (simp [fr_S_feed]; done) | (unfold fr_S_feed; omega))) (F1 214 13 (by first | (simp [fr_S_feed]; done) | (unfold fr_S_feed; omega))) (fun k => F2 190 k (by first | (simp [fr_M_feed]; done) | (unfold fr_M_feed; omega)))
  have Z2 : zP g2 := zP_eq (fun a i hc => F2 a i (zpf_M_feed hc)) Z1
  refine zi_pop (pc' := 458) rfl rfl rfl ?_
  refine zi_goto (x := 1356) rfl ?_
  exact k _ ⟨I2, (by rw [c2_0_2, c1_0_2, c2_214_62, c1_214_62]; exact R0), by omega, ta_, (by rw [c2_2_8, c1_2_8, c2_214_6, c1_214_6]; exact R3), (fun q => by rw [c2_47_8, c1_47_8, c2_250_264, c1_250_264]; exact R4 (by rw [c2_0_2, c1_0_2] at q; exact q)), (by rw [c2_2_11, c1_2_11, c2_214_7, c1_214_7]; exact R5), (fun q => by rw [c2_47_11, c1_47_11, c2_250_265, c1_250_265]; exact R6 (by rw [c2_0_2, c1_0_2] at q; exact q)), (zXg_n R7 (by rw [F2 19 2 (by first | (simp [fr_M_feed]; done) | (unfold fr_M_feed; omega)), F1 19 2 (by first | (simp [fr_S_feed]; done) | (unfold fr_S_feed; omega))]) (by rw [F2 214 35 (by first | (simp [fr_M_feed]; done) | (unfold fr_M_feed; omega)), F1 214 35 (by first | (simp [fr_S_feed]; done) | (unfold fr_S_feed; omega))]) (fun k => by rw [F2 29 k (by first | (simp [fr_M_feed]; done) | (unfold fr_M_feed; omega)), F1 29 k (by first | (simp [fr_S_feed]; done) | (unfold fr_S_feed; omega))]) (fun k _ => by rw [F2 232 k (by first | (simp [fr_M_feed]; done) | (unfold fr_M_feed; omega)), F1 232 k (by first | (simp [fr_S_feed]; done) | (unfold fr_S_feed; omega))])), (fun q => zXgk_n (R8 (by omega)) (by rw [F2 64 2 (by first | (simp [fr_M_feed]; done) | (unfold fr_M_feed; omega)), F1 64 2 (by first | (simp [fr_S_feed]; done) | (unfold fr_S_feed; omega))]) (fun k => by rw [F2 74 k (by first | (simp [fr_M_feed]; done) | (unfold fr_M_feed; omega)), F1 74 k (by first | (simp [fr_S_feed]; done) | (unfold fr_S_feed; omega))]) (fun k => by rw [F2 250 k (by first | (simp [fr_M_feed]; done) | (unfold fr_M_feed; omega)), F1 250 k (by first | (simp [fr_S_feed]; done) | (unfold fr_S_feed; omega))])), Z2⟩
