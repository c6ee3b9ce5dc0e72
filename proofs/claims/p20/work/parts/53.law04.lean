-- by program (wip/gen/mklaw.py)
theorem zpf_M_fault {a : Nat} {i : Int} (hc : zPc a i) : ¬ fr_M_fault a i := fun w => by
  have ha := zPc_le hc
  unfold fr_M_fault at w
  clear hc
  omega
theorem zbg_M_faultFt {a : Nat} {i : Int} (h : zFt a i) : ¬ fr_M_fault a i := fun w => by
  unfold fr_M_fault at w
  unfold zFt at h
  omega
theorem zbg_M_faultFc {a : Nat} {i : Int} (h : zFc a i) : ¬ fr_M_fault a i := fun w => by
  unfold fr_M_fault at w
  unfold zFc at h
  omega
set_option maxRecDepth 100000 in
set_option maxHeartbeats 4000000 in
theorem zw_c9 {E : sx_E} {i : Int} {g : zi_M} (hL : sx_Ln E ≤ 3072) (h0 : 0 ≤ i) (h6 : i + 6 ≤ ((sx_Ln E : Nat) : Int)) (R : zw_R g) (k : ∀ g' : zi_M, zw_R g' → zi_W E 420 326 1356 [some (.ref 1000000000), some (.ref 0), some (.ref 214), some (zi_i i)] [] g' zw_Q) : zi_W E 420 326 507 [some (.ref 1000000000), some (.ref 0), some (.ref 214), some (zi_i i)] [] g zw_Q := by
  obtain ⟨I, R0, R1, R2, R3, R4, R5, R6, R7, R8, R9, R10, R11, R12⟩ := R
  refine zi_aload_n (pc' := 508) rfl rfl rfl ?_
  refine zi_aload_n (pc' := 509) rfl rfl rfl ?_
  refine zi_iload_n (pc' := 510) rfl rfl rfl ?_
  refine zi_iconst (pc' := 511) rfl rfl ?_
  refine zi_iadd (pc' := 512) rfl rfl ?_
  refine zi_xald (pc' := 513) rfl rfl hL ⟨by omega, by omega⟩ ?_
  refine zi_callV (d' := 1) (as := [_]) (pc' := 516) rfl rfl rfl rfl (by decide) (s_S_fault (Q := fun v g' => g' = g) (Nat.le_refl _) (k_S_fault I (zw_r _ _) (by intros; rfl))) (zi_ki (fun v1 g1 h1 => ?_))
  have E1 : g1 = g := h1
  rw [E1]
  refine zi_pop (pc' := 517) rfl rfl rfl ?_
  refine zi_aload_n (pc' := 518) rfl rfl rfl ?_
  refine zi_aload_n (pc' := 519) rfl rfl rfl ?_
  refine zi_iload_n (pc' := 520) rfl rfl rfl ?_
  refine zi_iconst (pc' := 521) rfl rfl ?_
  refine zi_iadd (pc' := 522) rfl rfl ?_
  refine zi_xald (pc' := 523) rfl rfl hL ⟨by omega, by omega⟩ ?_
  refine zi_callV (d' := 1) (as := [_]) (pc' := 526) rfl rfl rfl rfl (by decide) (s_M_fault (Q := fun v g' => zk_I g' ∧ zk_fr fr_M_fault g g') (Nat.le_refl _) (k_M_fault I (zw_r _ _) (fun v g' I' F' h0 => ⟨I', F'⟩))) (zi_ki (fun v2 g2 h2 => ?_))
  obtain ⟨I2, F2⟩ := h2
  have c2_0_2 : g2 0 2 = g 0 2 := F2 0 2 (by first | (simp [fr_M_fault]; done) | (unfold fr_M_fault; omega))
  have c2_0_8 : g2 0 8 = g 0 8 := F2 0 8 (by first | (simp [fr_M_fault]; done) | (unfold fr_M_fault; omega))
  have c2_2_8 : g2 2 8 = g 2 8 := F2 2 8 (by first | (simp [fr_M_fault]; done) | (unfold fr_M_fault; omega))
  have c2_2_11 : g2 2 11 = g 2 11 := F2 2 11 (by first | (simp [fr_M_fault]; done) | (unfold fr_M_fault; omega))
  have c2_47_8 : g2 47 8 = g 47 8 := F2 47 8 (by first | (simp [fr_M_fault]; done) | (unfold fr_M_fault; omega))
  have c2_47_11 : g2 47 11 = g 47 11 := F2 47 11 (by first | (simp [fr_M_fault]; done) | (unfold fr_M_fault; omega))
  have c2_214_6 : g2 214 6 = g 214 6 := F2 214 6 (by first | (simp [fr_M_fault]; done) | (unfold fr_M_fault; omega))
  have c2_214_7 : g2 214 7 = g 214 7 := F2 214 7 (by first | (simp [fr_M_fault]; done) | (unfold fr_M_fault; omega))
  have c2_214_13 : g2 214 13 = g 214 13 := F2 214 13 (by first | (simp [fr_M_fault]; done) | (unfold fr_M_fault; omega))
  have c2_214_62 : g2 214 62 = g 214 62 := F2 214 62 (by first | (simp [fr_M_fault]; done) | (unfold fr_M_fault; omega))
  have c2_250_264 : g2 250 264 = g 250 264 := F2 250 264 (by first | (simp [fr_M_fault]; done) | (unfold fr_M_fault; omega))
  have c2_250_265 : g2 250 265 = g 250 265 := F2 250 265 (by first | (simp [fr_M_fault]; done) | (unfold fr_M_fault; omega))
  have Z2 : zP g2 := zP_eq (fun a i hc => F2 a i (zpf_M_fault hc)) R12
  refine zi_pop (pc' := 527) rfl rfl rfl ?_
  refine zi_goto (x := 1356) rfl ?_
  exact k _ ⟨I2, (by rw [c2_0_2, c2_214_62]; exact R0), (by rw [c2_0_8, c2_214_13]; exact R1), (funext fun k => by rw [F2 190 k (by first | (simp [fr_M_fault]; done) | (unfold fr_M_fault; omega)), F2 222 k (by first | (simp [fr_M_fault]; done) | (unfold fr_M_fault; omega))]; exact congrFun R2 k), (by rw [c2_2_8, c2_214_6]; exact R3), (fun q => by rw [c2_47_8, c2_250_264]; exact R4 (by rw [c2_0_2] at q; exact q)), (by rw [c2_2_11, c2_214_7]; exact R5), (fun q => by rw [c2_47_11, c2_250_265]; exact R6 (by rw [c2_0_2] at q; exact q)), (zXw_n R7 (by rw [F2 19 5 (by first | (simp [fr_M_fault]; done) | (unfold fr_M_fault; omega))]) (by rw [F2 214 37 (by first | (simp [fr_M_fault]; done) | (unfold fr_M_fault; omega))]) (fun k => by rw [F2 30 k (by first | (simp [fr_M_fault]; done) | (unfold fr_M_fault; omega))]) (fun k => by rw [F2 31 k (by first | (simp [fr_M_fault]; done) | (unfold fr_M_fault; omega))]) (fun k _ => by rw [F2 233 k (by first | (simp [fr_M_fault]; done) | (unfold fr_M_fault; omega))]) (show 0 ≤ g 19 5 ∧ g 19 5 ≤ 16 from I.1 19 5).2), (fun q => zXwk_n (R8 (by omega)) (by rw [F2 64 5 (by first | (simp [fr_M_fault]; done) | (unfold fr_M_fault; omega))]) (fun k => by rw [F2 75 k (by first | (simp [fr_M_fault]; done) | (unfold fr_M_fault; omega))]) (fun k => by rw [F2 76 k (by first | (simp [fr_M_fault]; done) | (unfold fr_M_fault; omega))]) (fun k => by rw [F2 250 k (by first | (simp [fr_M_fault]; done) | (unfold fr_M_fault; omega))])), (zXg_n R9 (by rw [F2 19 2 (by first | (simp [fr_M_fault]; done) | (unfold fr_M_fault; omega))]) (by rw [F2 214 35 (by first | (simp [fr_M_fault]; done) | (unfold fr_M_fault; omega))]) (fun k => by rw [F2 29 k (by first | (simp [fr_M_fault]; done) | (unfold fr_M_fault; omega))]) (fun k _ => by rw [F2 232 k (by first | (simp [fr_M_fault]; done) | (unfold fr_M_fault; omega))])), (fun q => zXgk_n (R10 (by omega)) (by rw [F2 64 2 (by first | (simp [fr_M_fault]; done) | (unfold fr_M_fault; omega))]) (fun k => by rw [F2 74 k (by first | (simp [fr_M_fault]; done) | (unfold fr_M_fault; omega))]) (fun k => by rw [F2 250 k (by first | (simp [fr_M_fault]; done) | (unfold fr_M_fault; omega))])), (zBD_n R11 (fun a i h => (F2 a i (zbg_M_faultFt h))) (fun a i h => (F2 a i (zbg_M_faultFc h)))), Z2⟩
theorem zpf_S_of {a : Nat} {i : Int} (hc : zPc a i) : ¬ fr_S_of a i := fun w => by
  unfold fr_S_of at w
  unfold zPc at hc
  omega
theorem zpf_M_of {a : Nat} {i : Int} (hc : zPc a i) : ¬ fr_M_of a i := fun w => by
  have ha := zPc_le hc
  unfold fr_M_of at w
  clear hc
  omega
theorem zbg_M_ofFt {a : Nat} {i : Int} (h : zFt a i) : ¬ fr_M_of a i := fun w => by
  unfold fr_M_of at w
  unfold zFt at h
  omega
theorem zbg_S_ofFt {a : Nat} {i : Int} (h : zFt a i) : ¬ fr_S_of a i := fun w => by
  unfold fr_S_of at w
  unfold zFt at h
  omega
theorem zbg_M_ofFc {a : Nat} {i : Int} (h : zFc a i) : ¬ fr_M_of a i := fun w => by
  unfold fr_M_of at w
  unfold zFc at h
  omega
theorem zbg_S_ofFc {a : Nat} {i : Int} (h : zFc a i) : ¬ fr_S_of a i := fun w => by
  unfold fr_S_of at w
  unfold zFc at h
  omega
set_option maxRecDepth 100000 in
set_option maxHeartbeats 4000000 in
theorem zw_c10 {E : sx_E} {i : Int} {g : zi_M} (hL : sx_Ln E ≤ 3072) (h0 : 0 ≤ i) (h6 : i + 6 ≤ ((sx_Ln E : Nat) : Int)) (R : zw_R g) (k : ∀ g' : zi_M, zw_R g' → zi_W E 420 326 1356 [some (.ref 1000000000), some (.ref 0), some (.ref 214), some (zi_i i)] [] g' zw_Q) : zi_W E 420 326 530 [some (.ref 1000000000), some (.ref 0), some (.ref 214), some (zi_i i)] [] g zw_Q := by
  obtain ⟨I, R0, R1, R2, R3, R4, R5, R6, R7, R8, R9, R10, R11, R12⟩ := R
  refine zi_aload_n (pc' := 531) rfl rfl rfl ?_
  refine zi_aload_n (pc' := 532) rfl rfl rfl ?_
  refine zi_iload_n (pc' := 533) rfl rfl rfl ?_
  refine zi_iconst (pc' := 534) rfl rfl ?_
  refine zi_iadd (pc' := 535) rfl rfl ?_
  refine zi_xald (pc' := 536) rfl rfl hL ⟨by omega, by omega⟩ ?_
  refine zi_aload_n (pc' := 537) rfl rfl rfl ?_
  refine zi_iload_n (pc' := 538) rfl rfl rfl ?_
  refine zi_iconst (pc' := 539) rfl rfl ?_
  refine zi_iadd (pc' := 540) rfl rfl ?_
  refine zi_xald (pc' := 541) rfl rfl hL ⟨by omega, by omega⟩ ?_
  refine zi_callV (d' := 4) (as := [_, _]) (pc' := 544) rfl rfl rfl rfl (by decide) (s_S_of (Q := fun v g' => zk_I g' ∧ zk_fr fr_S_of g g') (Nat.le_refl _) (k_S_of I (zw_r _ _) (zw_r _ _) (fun v g' I' F' h0 => ⟨I', F'⟩))) (zi_ki (fun v1 g1 h1 => ?_))
  obtain ⟨I1, F1⟩ := h1
  have c1_0_2 : g1 0 2 = g 0 2 := F1 0 2 (by first | (simp [fr_S_of]; done) | (unfold fr_S_of; omega))
  have c1_0_8 : g1 0 8 = g 0 8 := F1 0 8 (by first | (simp [fr_S_of]; done) | (unfold fr_S_of; omega))
  have c1_2_8 : g1 2 8 = g 2 8 := F1 2 8 (by first | (simp [fr_S_of]; done) | (unfold fr_S_of; omega))
  have c1_2_11 : g1 2 11 = g 2 11 := F1 2 11 (by first | (simp [fr_S_of]; done) | (unfold fr_S_of; omega))
  have c1_47_8 : g1 47 8 = g 47 8 := F1 47 8 (by first | (simp [fr_S_of]; done) | (unfold fr_S_of; omega))
  have c1_47_11 : g1 47 11 = g 47 11 := F1 47 11 (by first | (simp [fr_S_of]; done) | (unfold fr_S_of; omega))
  have c1_214_6 : g1 214 6 = g 214 6 := F1 214 6 (by first | (simp [fr_S_of]; done) | (unfold fr_S_of; omega))
  have c1_214_7 : g1 214 7 = g 214 7 := F1 214 7 (by first | (simp [fr_S_of]; done) | (unfold fr_S_of; omega))
  have c1_214_13 : g1 214 13 = g 214 13 := F1 214 13 (by first | (simp [fr_S_of]; done) | (unfold fr_S_of; omega))
  have c1_214_62 : g1 214 62 = g 214 62 := F1 214 62 (by first | (simp [fr_S_of]; done) | (unfold fr_S_of; omega))
  have c1_250_264 : g1 250 264 = g 250 264 := F1 250 264 (by first | (simp [fr_S_of]; done) | (unfold fr_S_of; omega))
  have c1_250_265 : g1 250 265 = g 250 265 := F1 250 265 (by first | (simp [fr_S_of]; done) | (unfold fr_S_of; omega))
  have Z1 : zP g1 := zP_eq (fun a i hc => F1 a i (zpf_S_of hc)) R12
  refine zi_pop (pc' := 545) rfl rfl rfl ?_
  refine zi_aload_n (pc' := 546) rfl rfl rfl ?_
  refine zi_aload_n (pc' := 547) rfl rfl rfl ?_
  refine zi_iload_n (pc' := 548) rfl rfl rfl ?_
  refine zi_iconst (pc' := 549) rfl rfl ?_
  refine zi_iadd (pc' := 550) rfl rfl ?_
  refine zi_xald (pc' := 551) rfl rfl hL ⟨by omega, by omega⟩ ?_
  refine zi_aload_n (pc' := 552) rfl rfl rfl ?_
  refine zi_iload_n (pc' := 553) rfl rfl rfl ?_
  refine zi_iconst (pc' := 554) rfl rfl ?_
  refine zi_iadd (pc' := 555) rfl rfl ?_
  refine zi_xald (pc' := 556) rfl rfl hL ⟨by omega, by omega⟩ ?_
  refine zi_callV (d' := 6) (as := [_, _]) (pc' := 559) rfl rfl rfl rfl (by decide) (s_M_of (Q := fun v g' => zk_I g' ∧ zk_fr fr_M_of g1 g') (Nat.le_refl _) (k_M_of I1 (zw_r _ _) (zw_r _ _) (fun v g' I' F' h0 => ⟨I', F'⟩))) (zi_ki (fun v2 g2 h2 => ?_))
  obtain ⟨I2, F2⟩ := h2
  have c2_0_2 : g2 0 2 = g1 0 2 := F2 0 2 (by first | (simp [fr_M_of]; done) | (unfold fr_M_of; omega))
  have c2_0_8 : g2 0 8 = g1 0 8 := F2 0 8 (by first | (simp [fr_M_of]; done) | (unfold fr_M_of; omega))
  have c2_2_8 : g2 2 8 = g1 2 8 := F2 2 8 (by first | (simp [fr_M_of]; done) | (unfold fr_M_of; omega))
  have c2_2_11 : g2 2 11 = g1 2 11 := F2 2 11 (by first | (simp [fr_M_of]; done) | (unfold fr_M_of; omega))
  have c2_47_8 : g2 47 8 = g1 47 8 := F2 47 8 (by first | (simp [fr_M_of]; done) | (unfold fr_M_of; omega))
  have c2_47_11 : g2 47 11 = g1 47 11 := F2 47 11 (by first | (simp [fr_M_of]; done) | (unfold fr_M_of; omega))
  have c2_214_6 : g2 214 6 = g1 214 6 := F2 214 6 (by first | (simp [fr_M_of]; done) | (unfold fr_M_of; omega))
  have c2_214_7 : g2 214 7 = g1 214 7 := F2 214 7 (by first | (simp [fr_M_of]; done) | (unfold fr_M_of; omega))
  have c2_214_13 : g2 214 13 = g1 214 13 := F2 214 13 (by first | (simp [fr_M_of]; done) | (unfold fr_M_of; omega))
  have c2_214_62 : g2 214 62 = g1 214 62 := F2 214 62 (by first | (simp [fr_M_of]; done) | (unfold fr_M_of; omega))
  have c2_250_264 : g2 250 264 = g1 250 264 := F2 250 264 (by first | (simp [fr_M_of]; done) | (unfold fr_M_of; omega))
  have c2_250_265 : g2 250 265 = g1 250 265 := F2 250 265 (by first | (simp [fr_M_of]; done) | (unfold fr_M_of; omega))
  have Z2 : zP g2 := zP_eq (fun a i hc => F2 a i (zpf_M_of hc)) Z1
  refine zi_pop (pc' := 560) rfl rfl rfl ?_
  refine zi_goto (x := 1356) rfl ?_
  exact k _ ⟨I2, (by rw [c2_0_2, c1_0_2, c2_214_62, c1_214_62]; exact R0), (by rw [c2_0_8, c1_0_8, c2_214_13, c1_214_13]; exact R1), (funext fun k => by rw [F2 190 k (by first | (simp [fr_M_of]; done) | (unfold fr_M_of; omega)), F1 190 k (by first | (simp [fr_S_of]; done) | (unfold fr_S_of; omega)), F2 222 k (by first | (simp [fr_M_of]; done) | (unfold fr_M_of; omega)), F1 222 k (by first | (simp [fr_S_of]; done) | (unfold fr_S_of; omega))]; exact congrFun R2 k), (by rw [c2_2_8, c1_2_8, c2_214_6, c1_214_6]; exact R3), (fun q => by rw [c2_47_8, c1_47_8, c2_250_264, c1_250_264]; exact R4 (by rw [c2_0_2, c1_0_2] at q; exact q)), (by rw [c2_2_11, c1_2_11, c2_214_7, c1_214_7]; exact R5), (fun q => by rw [c2_47_11, c1_47_11, c2_250_265, c1_250_265]; exact R6 (by rw [c2_0_2, c1_0_2] at q; exact q)), (zXw_n R7 (by rw [F2 19 5 (by first | (simp [fr_M_of]; done) | (unfold fr_M_of; omega)), F1 19 5 (by first | (simp [fr_S_of]; done) | (unfold fr_S_of; omega))]) (by rw [F2 214 37 (by first | (simp [fr_M_of]; done) | (unfold fr_M_of; omega)), F1 214 37 (by first | (simp [fr_S_of]; done) | (unfold fr_S_of; omega))]) (fun k => by rw [F2 30 k (by first | (simp [fr_M_of]; done) | (unfold fr_M_of; omega)), F1 30 k (by first | (simp [fr_S_of]; done) | (unfold fr_S_of; omega))]) (fun k => by rw [F2 31 k (by first | (simp [fr_M_of]; done) | (unfold fr_M_of; omega)), F1 31 k (by first | (simp [fr_S_of]; done) | (unfold fr_S_of; omega))]) (fun k _ => by rw [F2 233 k (by first | (simp [fr_M_of]; done) | (unfold fr_M_of; omega)), F1 233 k (by first | (simp [fr_S_of]; done) | (unfold fr_S_of; omega))]) (show 0 ≤ g 19 5 ∧ g 19 5 ≤ 16 from I.1 19 5).2), (fun q => zXwk_n (R8 (by omega)) (by rw [F2 64 5 (by first | (simp [fr_M_of]; done) | (unfold fr_M_of; omega)), F1 64 5 (by first | (simp [fr_S_of]; done) | (unfold fr_S_of; omega))]) (fun k => by rw [F2 75 k (by first | (simp [fr_M_of]; done) | (unfold fr_M_of; omega)), F1 75 k (by first | (simp [fr_S_of]; done) | (unfold fr_S_of; omega))]) (fun k => by rw [F2 76 k (by first | (simp [fr_M_of]; done) | (unfold fr_M_of; omega)), F1 76 k (by first | (simp [fr_S_of]; done) | (unfold fr_S_of; omega))]) (fun k => by rw [F2 250 k (by first | (simp [fr_M_of]; done) | (unfold fr_M_of; omega)), F1 250 k (by first | (simp [fr_S_of]; done) | (unfold fr_S_of; omega))])), (zXg_n R9 (by rw [F2 19 2 (by first | (simp [fr_M_of]; done) | (unfold fr_M_of; omega)), F1 19 2 (by first | (simp [fr_S_of]; done) | (unfold fr_S_of; omega))]) (by rw [F2 214 35 (by first | (simp [fr_M_of]; done) | (unfold fr_M_of; omega)), F1 214 35 (by first | (simp [fr_S_of]; done) | (unfold fr_S_of; omega))]) (fun k => by rw [F2 29 k (by first | (simp [fr_M_of]; done) | (unfold fr_M_of; omega)), F1 29 k (by first | (simp [fr_S_of]; done) | (unfold fr_S_of; omega))]) (fun k _ => by rw [F2 232 k (by first | (simp [fr_M_of]; done) | (unfold fr_M_of; omega)), F1 232 k (by first | (simp [fr_S_of]; done) | (unfold fr_S_of; omega))])), (fun q => zXgk_n (R10 (by omega)) (by rw [F2 64 2 (by first | (simp [fr_M_of]; done) | (unfold fr_M_of; omega)), F1 64 2 (by first | (simp [fr_S_of]; done) | (unfold fr_S_of; omega))]) (fun k => by rw [F2 74 k (by first | (simp [fr_M_of]; done) | (unfold fr_M_of; omega)), F1 74 k (by first | (simp [fr_S_of]; done) | (unfold fr_S_of; omega))]) (fun k => by rw [F2 250 k (by first | (simp [fr_M_of]; done) | (unfold fr_M_of; omega)), F1 250 k (by first | (simp [fr_S_of]; done) | (unfold fr_S_of; omega))])), (zBD_n R11 (fun a i h => (F2 a i (zbg_M_ofFt h)).trans (F1 a i (zbg_S_ofFt h))) (fun a i h => (F2 a i (zbg_M_ofFc h)).trans (F1 a i (zbg_S_ofFc h)))), Z2⟩
theorem zpf_M_who {a : Nat} {i : Int} (hc : zPc a i) : ¬ fr_M_who a i := fun w => by
  have ha := zPc_le hc
  unfold fr_M_who at w
  clear hc
  omega
theorem zbg_M_whoFt {a : Nat} {i : Int} (h : zFt a i) : ¬ fr_M_who a i := fun w => by
  unfold fr_M_who at w
  unfold zFt at h
  omega
theorem zbg_M_whoFc {a : Nat} {i : Int} (h : zFc a i) : ¬ fr_M_who a i := fun w => by
  unfold fr_M_who at w
  unfold zFc at h
  omega
set_option maxRecDepth 100000 in
set_option maxHeartbeats 4000000 in
theorem zw_c11 {E : sx_E} {i : Int} {g : zi_M} (hL : sx_Ln E ≤ 3072) (h0 : 0 ≤ i) (h6 : i + 6 ≤ ((sx_Ln E : Nat) : Int)) (R : zw_R g) (k : ∀ g' : zi_M, zw_R g' → zi_W E 420 326 1356 [some (.ref 1000000000), some (.ref 0), some (.ref 214), some (zi_i i)] [] g' zw_Q) : zi_W E 420 326 563 [some (.ref 1000000000), some (.ref 0), some (.ref 214), some (zi_i i)] [] g zw_Q := by
  obtain ⟨I, R0, R1, R2, R3, R4, R5, R6, R7, R8, R9, R10, R11, R12⟩ := R
  refine zi_aload_n (pc' := 564) rfl rfl rfl ?_
  refine zi_aload_n (pc' := 565) rfl rfl rfl ?_
  refine zi_iload_n (pc' := 566) rfl rfl rfl ?_
  refine zi_iconst (pc' := 567) rfl rfl ?_
  refine zi_iadd (pc' := 568) rfl rfl ?_
  refine zi_xald (pc' := 569) rfl rfl hL ⟨by omega, by omega⟩ ?_
  refine zi_aload_n (pc' := 570) rfl rfl rfl ?_
  refine zi_iload_n (pc' := 571) rfl rfl rfl ?_
  refine zi_iconst (pc' := 572) rfl rfl ?_
  refine zi_iadd (pc' := 573) rfl rfl ?_
  refine zi_xald (pc' := 574) rfl rfl hL ⟨by omega, by omega⟩ ?_
  refine zi_callV (d' := 2) (as := [_, _]) (pc' := 577) rfl rfl rfl rfl (by decide) (s_S_who (Q := fun v g' => g' = g) (Nat.le_refl _) (k_S_who I (zw_r _ _) (zw_r _ _) (by intros; rfl))) (zi_ki (fun v1 g1 h1 => ?_))
  have E1 : g1 = g := h1
  rw [E1]
  refine zi_pop (pc' := 578) rfl rfl rfl ?_
  refine zi_aload_n (pc' := 579) rfl rfl rfl ?_
  refine zi_aload_n (pc' := 580) rfl rfl rfl ?_
  refine zi_iload_n (pc' := 581) rfl rfl rfl ?_
  refine zi_iconst (pc' := 582) rfl rfl ?_
  refine zi_iadd (pc' := 583) rfl rfl ?_
  refine zi_xald (pc' := 584) rfl rfl hL ⟨by omega, by omega⟩ ?_
  refine zi_aload_n (pc' := 585) rfl rfl rfl ?_
  refine zi_iload_n (pc' := 586) rfl rfl rfl ?_
  refine zi_iconst (pc' := 587) rfl rfl ?_
  refine zi_iadd (pc' := 588) rfl rfl ?_
  refine zi_xald (pc' := 589) rfl rfl hL ⟨by omega, by omega⟩ ?_
  refine zi_callV (d' := 2) (as := [_, _]) (pc' := 592) rfl rfl rfl rfl (by decide) (s_M_who (Q := fun v g' => zk_I g' ∧ zk_fr fr_M_who g g') (Nat.le_refl _) (k_M_who I (zw_r _ _) (zw_r _ _) (fun v g' I' F' h0 h1 => ⟨I', F'⟩))) (zi_ki (fun v2 g2 h2 => ?_))
  obtain ⟨I2, F2⟩ := h2
  have c2_0_2 : g2 0 2 = g 0 2 := F2 0 2 (by first | (simp [fr_M_who]; done) | (unfold fr_M_who; omega))
  have c2_0_8 : g2 0 8 = g 0 8 := F2 0 8 (by first | (simp [fr_M_who]; done) | (unfold fr_M_who; omega))
  have c2_2_8 : g2 2 8 = g 2 8 := F2 2 8 (by first | (simp [fr_M_who]; done) | (unfold fr_M_who; omega))
  have c2_2_11 : g2 2 11 = g 2 11 := F2 2 11 (by first | (simp [fr_M_who]; done) | (unfold fr_M_who; omega))
  have c2_47_8 : g2 47 8 = g 47 8 := F2 47 8 (by first | (simp [fr_M_who]; done) | (unfold fr_M_who; omega))
  have c2_47_11 : g2 47 11 = g 47 11 := F2 47 11 (by first | (simp [fr_M_who]; done) | (unfold fr_M_who; omega))
  have c2_214_6 : g2 214 6 = g 214 6 := F2 214 6 (by first | (simp [fr_M_who]; done) | (unfold fr_M_who; omega))
  have c2_214_7 : g2 214 7 = g 214 7 := F2 214 7 (by first | (simp [fr_M_who]; done) | (unfold fr_M_who; omega))
  have c2_214_13 : g2 214 13 = g 214 13 := F2 214 13 (by first | (simp [fr_M_who]; done) | (unfold fr_M_who; omega))
  have c2_214_62 : g2 214 62 = g 214 62 := F2 214 62 (by first | (simp [fr_M_who]; done) | (unfold fr_M_who; omega))
  have c2_250_264 : g2 250 264 = g 250 264 := F2 250 264 (by first | (simp [fr_M_who]; done) | (unfold fr_M_who; omega))
  have c2_250_265 : g2 250 265 = g 250 265 := F2 250 265 (by first | (simp [fr_M_who]; done) | (unfold fr_M_who; omega))
  have Z2 : zP g2 := zP_eq (fun a i hc => F2 a i (zpf_M_who hc)) R12
  refine zi_pop (pc' := 593) rfl rfl rfl ?_
  refine zi_goto (x := 1356) rfl ?_
  exact k _ ⟨I2, (by rw [c2_0_2, c2_214_62]; exact R0), (by rw [c2_0_8, c2_214_13]; exact R1), (funext fun k => by rw [F2 190 k (by first | (simp [fr_M_who]; done) | (unfold fr_M_who; omega)), F2 222 k (by first | (simp [fr_M_who]; done) | (unfold fr_M_who; omega))]; exact congrFun R2 k), (by rw [c2_2_8, c2_214_6]; exact R3), (fun q => by rw [c2_47_8, c2_250_264]; exact R4 (by rw [c2_0_2] at q; exact q)), (by rw [c2_2_11, c2_214_7]; exact R5), (fun q => by rw [c2_47_11, c2_250_265]; exact R6 (by rw [c2_0_2] at q; exact q)), (zXw_n R7 (by rw [F2 19 5 (by first | (simp [fr_M_who]; done) | (unfold fr_M_who; omega))]) (by rw [F2 214 37 (by first | (simp [fr_M_who]; done) | (unfold fr_M_who; omega))]) (fun k => by rw [F2 30 k (by first | (simp [fr_M_who]; done) | (unfold fr_M_who; omega))]) (fun k => by rw [F2 31 k (by first | (simp [fr_M_who]; done) | (unfold fr_M_who; omega))]) (fun k _ => by rw [F2 233 k (by first | (simp [fr_M_who]; done) | (unfold fr_M_who; omega))]) (show 0 ≤ g 19 5 ∧ g 19 5 ≤ 16 from I.1 19 5).2), (fun q => zXwk_n (R8 (by omega)) (by rw [F2 64 5 (by first | (simp [fr_M_who]; done) | (unfold fr_M_who; omega))]) (fun k => by rw [F2 75 k (by first | (simp [fr_M_who]; done) | (unfold fr_M_who; omega))]) (fun k => by rw [F2 76 k (by first | (simp [fr_M_who]; done) | (unfold fr_M_who; omega))]) (fun k => by rw [F2 250 k (by first | (simp [fr_M_who]; done) | (unfold fr_M_who; omega))])), (zXg_n R9 (by rw [F2 19 2 (by first | (simp [fr_M_who]; done) | (unfold fr_M_who; omega))]) (by rw [F2 214 35 (by first | (simp [fr_M_who]; done) | (unfold fr_M_who; omega))]) (fun k => by rw [F2 29 k (by first | (simp [fr_M_who]; done) | (unfold fr_M_who; omega))]) (fun k _ => by rw [F2 232 k (by first | (simp [fr_M_who]; done) | (unfold fr_M_who; omega))])), (fun q => zXgk_n (R10 (by omega)) (by rw [F2 64 2 (by first | (simp [fr_M_who]; done) | (unfold fr_M_who; omega))]) (fun k => by rw [F2 74 k (by first | (simp [fr_M_who]; done) | (unfold fr_M_who; omega))]) (fun k => by rw [F2 250 k (by first | (simp [fr_M_who]; done) | (unfold fr_M_who; omega))])), (zBD_n R11 (fun a i h => (F2 a i (zbg_M_whoFt h))) (fun a i h => (F2 a i (zbg_M_whoFc h)))), Z2⟩
theorem zpf_M_jar {a : Nat} {i : Int} (hc : zPc a i) : ¬ fr_M_jar a i := fun w => by
  have ha := zPc_le hc
  unfold fr_M_jar at w
  clear hc
  omega
theorem zbg_M_jarFt {a : Nat} {i : Int} (h : zFt a i) : ¬ fr_M_jar a i := fun w => by
  unfold fr_M_jar at w
  unfold zFt at h
  omega
theorem zbg_M_jarFc {a : Nat} {i : Int} (h : zFc a i) : ¬ fr_M_jar a i := fun w => by
  unfold fr_M_jar at w
  unfold zFc at h
  omega
set_option maxRecDepth 100000 in
set_option maxHeartbeats 4000000 in
theorem zw_c12 {E : sx_E} {i : Int} {g : zi_M} (hL : sx_Ln E ≤ 3072) (h0 : 0 ≤ i) (h6 : i + 6 ≤ ((sx_Ln E : Nat) : Int)) (R : zw_R g) (k : ∀ g' : zi_M, zw_R g' → zi_W E 420 326 1356 [some (.ref 1000000000), some (.ref 0), some (.ref 214), some (zi_i i)] [] g' zw_Q) : zi_W E 420 326 596 [some (.ref 1000000000), some (.ref 0), some (.ref 214), some (zi_i i)] [] g zw_Q := by
  obtain ⟨I, R0, R1, R2, R3, R4, R5, R6, R7, R8, R9, R10, R11, R12⟩ := R
  refine zi_aload_n (pc' := 597) rfl rfl rfl ?_
  refine zi_aload_n (pc' := 598) rfl rfl rfl ?_
  refine zi_iload_n (pc' := 599) rfl rfl rfl ?_
  refine zi_iconst (pc' := 600) rfl rfl ?_
  refine zi_iadd (pc' := 601) rfl rfl ?_
  refine zi_xald (pc' := 602) rfl rfl hL ⟨by omega, by omega⟩ ?_
  refine zi_aload_n (pc' := 603) rfl rfl rfl ?_
  refine zi_iload_n (pc' := 604) rfl rfl rfl ?_
  refine zi_iconst (pc' := 605) rfl rfl ?_
  refine zi_iadd (pc' := 606) rfl rfl ?_
  refine zi_xald (pc' := 607) rfl rfl hL ⟨by omega, by omega⟩ ?_
  refine zi_callV (d' := 1) (as := [_, _]) (pc' := 610) rfl rfl rfl rfl (by decide) (s_S_jar (Q := fun v g' => g' = g) (Nat.le_refl _) (k_S_jar I (zw_r _ _) (zw_r _ _) (by intros; rfl))) (zi_ki (fun v1 g1 h1 => ?_))
  have E1 : g1 = g := h1
  rw [E1]
  refine zi_pop (pc' := 611) rfl rfl rfl ?_
  refine zi_aload_n (pc' := 612) rfl rfl rfl ?_
  refine zi_aload_n (pc' := 613) rfl rfl rfl ?_
  refine zi_iload_n (pc' := 614) rfl rfl rfl ?_
  refine zi_iconst (pc' := 615) rfl rfl ?_
  refine zi_iadd (pc' := 616) rfl rfl ?_
  refine zi_xald (pc' := 617) rfl rfl hL ⟨by omega, by omega⟩ ?_
  refine zi_aload_n (pc' := 618) rfl rfl rfl ?_
  refine zi_iload_n (pc' := 619) rfl rfl rfl ?_
  refine zi_iconst (pc' := 620) rfl rfl ?_
  refine zi_iadd (pc' := 621) rfl rfl ?_
  refine zi_xald (pc' := 622) rfl rfl hL ⟨by omega, by omega⟩ ?_
  refine zi_callV (d' := 2) (as := [_, _]) (pc' := 625) rfl rfl rfl rfl (by decide) (s_M_jar (Q := fun v g' => zk_I g' ∧ zk_fr fr_M_jar g g') (Nat.le_refl _) (k_M_jar I (zw_r _ _) (zw_r _ _) (fun v g' I' F' h0 => ⟨I', F'⟩))) (zi_ki (fun v2 g2 h2 => ?_))
  obtain ⟨I2, F2⟩ := h2
  have c2_0_2 : g2 0 2 = g 0 2 := F2 0 2 (by first | (simp [fr_M_jar]; done) | (unfold fr_M_jar; omega))
  have c2_0_8 : g2 0 8 = g 0 8 := F2 0 8 (by first | (simp [fr_M_jar]; done) | (unfold fr_M_jar; omega))
  have c2_2_8 : g2 2 8 = g 2 8 := F2 2 8 (by first | (simp [fr_M_jar]; done) | (unfold fr_M_jar; omega))
  have c2_2_11 : g2 2 11 = g 2 11 := F2 2 11 (by first | (simp [fr_M_jar]; done) | (unfold fr_M_jar; omega))
  have c2_47_8 : g2 47 8 = g 47 8 := F2 47 8 (by first | (simp [fr_M_jar]; done) | (unfold fr_M_jar; omega))
  have c2_47_11 : g2 47 11 = g 47 11 := F2 47 11 (by first | (simp [fr_M_jar]; done) | (unfold fr_M_jar; omega))
  have c2_214_6 : g2 214 6 = g 214 6 := F2 214 6 (by first | (simp [fr_M_jar]; done) | (unfold fr_M_jar; omega))
  have c2_214_7 : g2 214 7 = g 214 7 := F2 214 7 (by first | (simp [fr_M_jar]; done) | (unfold fr_M_jar; omega))
  have c2_214_13 : g2 214 13 = g 214 13 := F2 214 13 (by first | (simp [fr_M_jar]; done) | (unfold fr_M_jar; omega))
  have c2_214_62 : g2 214 62 = g 214 62 := F2 214 62 (by first | (simp [fr_M_jar]; done) | (unfold fr_M_jar; omega))
  have c2_250_264 : g2 250 264 = g 250 264 := F2 250 264 (by first | (simp [fr_M_jar]; done) | (unfold fr_M_jar; omega))
  have c2_250_265 : g2 250 265 = g 250 265 := F2 250 265 (by first | (simp [fr_M_jar]; done) | (unfold fr_M_jar; omega))
  have Z2 : zP g2 := zP_eq (fun a i hc => F2 a i (zpf_M_jar hc)) R12
  refine zi_pop (pc' := 626) rfl rfl rfl ?_
  refine zi_goto (x := 1356) rfl ?_
  exact k _ ⟨I2, (by rw [c2_0_2, c2_214_62]; exact R0), (by rw [c2_0_8, c2_214_13]; exact R1), (funext fun k => by rw [F2 190 k (by first | (simp [fr_M_jar]; done) | (unfold fr_M_jar; omega)), F2 222 k (by first | (simp [fr_M_jar]; done) | (unfold fr_M_jar; omega))]; exact congrFun R2 k), (by rw [c2_2_8, c2_214_6]; exact R3), (fun q => by rw [c2_47_8, c2_250_264]; exact R4 (by rw [c2_0_2] at q; exact q)), (by rw [c2_2_11, c2_214_7]; exact R5), (fun q => by rw [c2_47_11, c2_250_265]; exact R6 (by rw [c2_0_2] at q; exact q)), (zXw_n R7 (by rw [F2 19 5 (by first | (simp [fr_M_jar]; done) | (unfold fr_M_jar; omega))]) (by rw [F2 214 37 (by first | (simp [fr_M_jar]; done) | (unfold fr_M_jar; omega))]) (fun k => by rw [F2 30 k (by first | (simp [fr_M_jar]; done) | (unfold fr_M_jar; omega))]) (fun k => by rw [F2 31 k (by first | (simp [fr_M_jar]; done) | (unfold fr_M_jar; omega))]) (fun k _ => by rw [F2 233 k (by first | (simp [fr_M_jar]; done) | (unfold fr_M_jar; omega))]) (show 0 ≤ g 19 5 ∧ g 19 5 ≤ 16 from I.1 19 5).2), (fun q => zXwk_n (R8 (by omega)) (by rw [F2 64 5 (by first | (simp [fr_M_jar]; done) | (unfold fr_M_jar; omega))]) (fun k => by rw [F2 75 k (by first | (simp [fr_M_jar]; done) | (unfold fr_M_jar; omega))]) (fun k => by rw [F2 76 k (by first | (simp [fr_M_jar]; done) | (unfold fr_M_jar; omega))]) (fun k => by rw [F2 250 k (by first | (simp [fr_M_jar]; done) | (unfold fr_M_jar; omega))])), (zXg_n R9 (by rw [F2 19 2 (by first | (simp [fr_M_jar]; done) | (unfold fr_M_jar; omega))]) (by rw [F2 214 35 (by first | (simp [fr_M_jar]; done) | (unfold fr_M_jar; omega))]) (fun k => by rw [F2 29 k (by first | (simp [fr_M_jar]; done) | (unfold fr_M_jar; omega))]) (fun k _ => by rw [F2 232 k (by first | (simp [fr_M_jar]; done) | (unfold fr_M_jar; omega))])), (fun q => zXgk_n (R10 (by omega)) (by rw [F2 64 2 (by first | (simp [fr_M_jar]; done) | (unfold fr_M_jar; omega))]) (fun k => by rw [F2 74 k (by first | (simp [fr_M_jar]; done) | (unfold fr_M_jar; omega))]) (fun k => by rw [F2 250 k (by first | (simp [fr_M_jar]; done) | (unfold fr_M_jar; omega))])), (zBD_n R11 (fun a i h => (F2 a i (zbg_M_jarFt h))) (fun a i h => (F2 a i (zbg_M_jarFc h)))), Z2⟩
