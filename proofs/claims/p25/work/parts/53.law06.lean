-- by program (wip/gen/mklaw.py)
theorem zpf_M_who {a : Nat} {i : Int} (hc : zPc a i) : ¬ fr_M_who a i := fun w => by
  have ha := zPc_le hc
  unfold fr_M_who at w
  clear hc
  omega
theorem zbg_M_whoFt {a : Nat} {i : Int} (h : zFt a i) : ¬ fr_M_who a i := fun w => by
  unfold fr_M_who at w
  unfold zFt at h
  omega
theorem zbg_M_whoFc {a : Nat} {i : Int} (h : zFc a i) : ¬ fr_M_who a i := fun w => by
  unfold fr_M_who at w
  unfold zFc at h
  omega
theorem zbg_M_whoFlw {a : Nat} {i : Int} (h : zFlw a i) : ¬ fr_M_who a i := fun w => by
  unfold fr_M_who at w
  unfold zFlw at h
  omega
theorem zbg_M_whoFlk {a : Nat} {i : Int} (h : zFlk a i) : ¬ fr_M_who a i := fun w => by
  unfold fr_M_who at w
  unfold zFlk at h
  omega
theorem zbg_M_whoFe {a : Nat} {i : Int} (h : zFe a i) : ¬ fr_M_who a i := fun w => by
  unfold fr_M_who at w
  unfold zFe at h
  omega
set_option maxRecDepth 100000 in
set_option maxHeartbeats 4000000 in
theorem zw_c11 {E : sx_E} {i : Int} {g : zi_M} (hL : sx_Ln E ≤ 3072) (h0 : 0 ≤ i) (h6 : i + 6 ≤ ((sx_Ln E : Nat) : Int)) (R : zw_R g) (k : ∀ g' : zi_M, zw_R g' → zi_W E 420 326 1356 [some (.ref 1000000000), some (.ref 0), some (.ref 214), some (zi_i i)] [] g' zw_Q) : zi_W E 420 326 563 [some (.ref 1000000000), some (.ref 0), some (.ref 214), some (zi_i i)] [] g zw_Q := by
  obtain ⟨I, R0, R1, R2, R3, R4, R5, R6, R7, R8, R9, R10, R11, R12, R13, R14, R15, R16, R17, R18, R19, R20, R21⟩ := R
  refine zi_aload_n (pc' := 564) rfl rfl rfl ?_
  refine zi_aload_n (pc' := 565) rfl rfl rfl ?_
  refine zi_iload_n (pc' := 566) rfl rfl rfl ?_
  refine zi_iconst (pc' := 567) rfl rfl ?_
  refine zi_iadd (pc' := 568) rfl rfl ?_
  refine zi_xald (pc' := 569) rfl rfl hL ⟨by omega, by omega⟩ ?_
  refine zi_aload_n (pc' := 570) rfl rfl rfl ?_
  refine zi_iload_n (pc' := 571) rfl rfl rfl ?_
  refine zi_iconst (pc' := 572) rfl rfl ?_
  refine zi_iadd (pc' := 573) rfl rfl ?_
  refine zi_xald (pc' := 574) rfl rfl hL ⟨by omega, by omega⟩ ?_
  refine zi_callV (d' := 2) (as := [_, _]) (pc' := 577) rfl rfl rfl rfl (by decide) (s_S_who (Q := fun v g' => g' = g) (Nat.le_refl _) (k_S_who I (zw_r _ _) (zw_r _ _) (by intros; rfl))) (zi_ki (fun v1 g1 h1 => ?_))
  have E1 : g1 = g := h1
  rw [E1]
  refine zi_pop (pc' := 578) rfl rfl rfl ?_
  refine zi_aload_n (pc' := 579) rfl rfl rfl ?_
  refine zi_aload_n (pc' := 580) rfl rfl rfl ?_
  refine zi_iload_n (pc' := 581) rfl rfl rfl ?_
  refine zi_iconst (pc' := 582) rfl rfl ?_
  refine zi_iadd (pc' := 583) rfl rfl ?_
  refine zi_xald (pc' := 584) rfl rfl hL ⟨by omega, by omega⟩ ?_
  refine zi_aload_n (pc' := 585) rfl rfl rfl ?_
  refine zi_iload_n (pc' := 586) rfl rfl rfl ?_
  refine zi_iconst (pc' := 587) rfl rfl ?_
  refine zi_iadd (pc' := 588) rfl rfl ?_
  refine zi_xald (pc' := 589) rfl rfl hL ⟨by omega, by omega⟩ ?_
  refine zi_callV (d' := 2) (as := [_, _]) (pc' := 592) rfl rfl rfl rfl (by decide) (s_M_who (Q := fun v g' => zk_I g' ∧ zk_fr fr_M_who g g') (Nat.le_refl _) (k_M_who I (zw_r _ _) (zw_r _ _) (fun v g' I' F' h0 h1 => ⟨I', F'⟩))) (zi_ki (fun v2 g2 h2 => ?_))
  obtain ⟨I2, F2⟩ := h2
  have c2_0_2 : g2 0 2 = g 0 2 := F2 0 2 (by first | (simp [fr_M_who]; done) | (unfold fr_M_who; omega))
  have c2_0_8 : g2 0 8 = g 0 8 := F2 0 8 (by first | (simp [fr_M_who]; done) | (unfold fr_M_who; omega))
  have c2_2_8 : g2 2 8 = g 2 8 := F2 2 8 (by first | (simp [fr_M_who]; done) | (unfold fr_M_who; omega))
  have c2_2_11 : g2 2 11 = g 2 11 := F2 2 11 (by first | (simp [fr_M_who]; done) | (unfold fr_M_who; omega))
  have c2_47_8 : g2 47 8 = g 47 8 := F2 47 8 (by first | (simp [fr_M_who]; done) | (unfold fr_M_who; omega))
  have c2_47_11 : g2 47 11 = g 47 11 := F2 47 11 (by first | (simp [fr_M_who]; done) | (unfold fr_M_who; omega))
  have c2_214_6 : g2 214 6 = g 214 6 := F2 214 6 (by first | (simp [fr_M_who]; done) | (unfold fr_M_who; omega))
  have c2_214_7 : g2 214 7 = g 214 7 := F2 214 7 (by first | (simp [fr_M_who]; done) | (unfold fr_M_who; omega))
  have c2_214_13 : g2 214 13 = g 214 13 := F2 214 13 (by first | (simp [fr_M_who]; done) | (unfold fr_M_who; omega))
  have c2_214_62 : g2 214 62 = g 214 62 := F2 214 62 (by first | (simp [fr_M_who]; done) | (unfold fr_M_who; omega))
  have c2_250_264 : g2 250 264 = g 250 264 := F2 250 264 (by first | (simp [fr_M_who]; done) | (unfold fr_M_who; omega))
  have c2_250_265 : g2 250 265 = g 250 265 := F2 250 265 (by first | (simp [fr_M_who]; done) | (unfold fr_M_who; omega))
  have Z2 : zP g2 := zP_eq (fun a i hc => F2 a i (zpf_M_who hc)) R21
  refine zi_pop (pc' := 593) rfl rfl rfl ?_
  refine zi_goto (x := 1356) rfl ?_
  exact k _ ⟨I2, (by rw [c2_0_2, c2_214_62]; exact R0), (by rw [c2_0_8, c2_214_13]; exact R1), (funext fun k => by rw [F2 190 k (by first | (simp [fr_M_who]; done) | (unfold fr_M_who; omega)), F2 222 k (by first | (simp [fr_M_who]; done) | (unfold fr_M_who; omega))]; exact congrFun R2 k), (by rw [c2_2_8, c2_214_6]; exact R3), (fun q => by rw [c2_47_8, c2_250_264]; exact R4 (by rw [c2_0_2] at q; exact q)), (by rw [c2_2_11, c2_214_7]; exact R5), (fun q => by rw [c2_47_11, c2_250_265]; exact R6 (by rw [c2_0_2] at q; exact q)), (zXw_n R7 (by rw [F2 19 5 (by first | (simp [fr_M_who]; done) | (unfold fr_M_who; omega))]) (by rw [F2 214 37 (by first | (simp [fr_M_who]; done) | (unfold fr_M_who; omega))]) (fun k => by rw [F2 30 k (by first | (simp [fr_M_who]; done) | (unfold fr_M_who; omega))]) (fun k => by rw [F2 31 k (by first | (simp [fr_M_who]; done) | (unfold fr_M_who; omega))]) (fun k _ => by rw [F2 233 k (by first | (simp [fr_M_who]; done) | (unfold fr_M_who; omega))]) (show 0 ≤ g 19 5 ∧ g 19 5 ≤ 16 from I.1 19 5).2), (fun q => zXwk_n (R8 (by omega)) (by rw [F2 64 5 (by first | (simp [fr_M_who]; done) | (unfold fr_M_who; omega))]) (fun k => by rw [F2 75 k (by first | (simp [fr_M_who]; done) | (unfold fr_M_who; omega))]) (fun k => by rw [F2 76 k (by first | (simp [fr_M_who]; done) | (unfold fr_M_who; omega))]) (fun k => by rw [F2 250 k (by first | (simp [fr_M_who]; done) | (unfold fr_M_who; omega))])), (zXg_n R9 (by rw [F2 19 2 (by first | (simp [fr_M_who]; done) | (unfold fr_M_who; omega))]) (by rw [F2 214 35 (by first | (simp [fr_M_who]; done) | (unfold fr_M_who; omega))]) (fun k => by rw [F2 29 k (by first | (simp [fr_M_who]; done) | (unfold fr_M_who; omega))]) (fun k _ => by rw [F2 232 k (by first | (simp [fr_M_who]; done) | (unfold fr_M_who; omega))])), (fun q => zXgk_n (R10 (by omega)) (by rw [F2 64 2 (by first | (simp [fr_M_who]; done) | (unfold fr_M_who; omega))]) (fun k => by rw [F2 74 k (by first | (simp [fr_M_who]; done) | (unfold fr_M_who; omega))]) (fun k => by rw [F2 250 k (by first | (simp [fr_M_who]; done) | (unfold fr_M_who; omega))])), (zBD_n R11 (fun a i h => (F2 a i (zbg_M_whoFt h))) (fun a i h => (F2 a i (zbg_M_whoFc h)))), (zRw_n (fun k => by rw [F2 5 k (by first | (simp [fr_M_who]; done) | (unfold fr_M_who; omega))]) (fun k => by rw [F2 220 k (by first | (simp [fr_M_who]; done) | (unfold fr_M_who; omega))]) R12), (fun q => zRw_nk (fun k => by rw [F2 50 k (by first | (simp [fr_M_who]; done) | (unfold fr_M_who; omega))]) (fun k => by rw [F2 250 k (by first | (simp [fr_M_who]; done) | (unfold fr_M_who; omega))]) (R13 (by omega))), (zRw_n (fun k => by rw [F2 3 k (by first | (simp [fr_M_who]; done) | (unfold fr_M_who; omega))]) (fun k => by rw [F2 218 k (by first | (simp [fr_M_who]; done) | (unfold fr_M_who; omega))]) R14), (fun q => zRw_nk (fun k => by rw [F2 48 k (by first | (simp [fr_M_who]; done) | (unfold fr_M_who; omega))]) (fun k => by rw [F2 250 k (by first | (simp [fr_M_who]; done) | (unfold fr_M_who; omega))]) (R15 (by omega))), (zRw_n (fun k => by rw [F2 4 k (by first | (simp [fr_M_who]; done) | (unfold fr_M_who; omega))]) (fun k => by rw [F2 219 k (by first | (simp [fr_M_who]; done) | (unfold fr_M_who; omega))]) R16), (fun q => zRw_nk (fun k => by rw [F2 49 k (by first | (simp [fr_M_who]; done) | (unfold fr_M_who; omega))]) (fun k => by rw [F2 250 k (by first | (simp [fr_M_who]; done) | (unfold fr_M_who; omega))]) (R17 (by omega))), (zLW_n R18 (show 0 ≤ g 224 0 ∧ g 224 0 ≤ 16 from I.1 224 0).2 (fun a i h => (F2 a i (zbg_M_whoFlw h)))), (fun q => zLWk_n (R19 (by omega)) (fun a i h => (F2 a i (zbg_M_whoFlk h)))), (zFD_n R20 (fun a i h => (F2 a i (zbg_M_whoFe h)))), Z2⟩
theorem zpf_M_jar {a : Nat} {i : Int} (hc : zPc a i) : ¬ fr_M_jar a i := fun w => by
  have ha := zPc_le hc
  unfold fr_M_jar at w
  clear hc
  omega
theorem zbg_M_jarFt {a : Nat} {i : Int} (h : zFt a i) : ¬ fr_M_jar a i := fun w => by
  unfold fr_M_jar at w
  unfold zFt at h
  omega
theorem zbg_M_jarFc {a : Nat} {i : Int} (h : zFc a i) : ¬ fr_M_jar a i := fun w => by
  unfold fr_M_jar at w
  unfold zFc at h
  omega
theorem zbg_M_jarFlw {a : Nat} {i : Int} (h : zFlw a i) : ¬ fr_M_jar a i := fun w => by
  unfold fr_M_jar at w
  unfold zFlw at h
  omega
theorem zbg_M_jarFlk {a : Nat} {i : Int} (h : zFlk a i) : ¬ fr_M_jar a i := fun w => by
  unfold fr_M_jar at w
  unfold zFlk at h
  omega
theorem zbg_M_jarFe {a : Nat} {i : Int} (h : zFe a i) : ¬ fr_M_jar a i := fun w => by
  unfold fr_M_jar at w
  unfold zFe at h
  omega
set_option maxRecDepth 100000 in
set_option maxHeartbeats 4000000 in
theorem zw_c12 {E : sx_E} {i : Int} {g : zi_M} (hL : sx_Ln E ≤ 3072) (h0 : 0 ≤ i) (h6 : i + 6 ≤ ((sx_Ln E : Nat) : Int)) (R : zw_R g) (k : ∀ g' : zi_M, zw_R g' → zi_W E 420 326 1356 [some (.ref 1000000000), some (.ref 0), some (.ref 214), some (zi_i i)] [] g' zw_Q) : zi_W E 420 326 596 [some (.ref 1000000000), some (.ref 0), some (.ref 214), some (zi_i i)] [] g zw_Q := by
  obtain ⟨I, R0, R1, R2, R3, R4, R5, R6, R7, R8, R9, R10, R11, R12, R13, R14, R15, R16, R17, R18, R19, R20, R21⟩ := R
  refine zi_aload_n (pc' := 597) rfl rfl rfl ?_
  refine zi_aload_n (pc' := 598) rfl rfl rfl ?_
  refine zi_iload_n (pc' := 599) rfl rfl rfl ?_
  refine zi_iconst (pc' := 600) rfl rfl ?_
  refine zi_iadd (pc' := 601) rfl rfl ?_
  refine zi_xald (pc' := 602) rfl rfl hL ⟨by omega, by omega⟩ ?_
  refine zi_aload_n (pc' := 603) rfl rfl rfl ?_
  refine zi_iload_n (pc' := 604) rfl rfl rfl ?_
  refine zi_iconst (pc' := 605) rfl rfl ?_
  refine zi_iadd (pc' := 606) rfl rfl ?_
  refine zi_xald (pc' := 607) rfl rfl hL ⟨by omega, by omega⟩ ?_
  refine zi_callV (d' := 1) (as := [_, _]) (pc' := 610) rfl rfl rfl rfl (by decide) (s_S_jar (Q := fun v g' => g' = g) (Nat.le_refl _) (k_S_jar I (zw_r _ _) (zw_r _ _) (by intros; rfl))) (zi_ki (fun v1 g1 h1 => ?_))
  have E1 : g1 = g := h1
  rw [E1]
  refine zi_pop (pc' := 611) rfl rfl rfl ?_
  refine zi_aload_n (pc' := 612) rfl rfl rfl ?_
  refine zi_aload_n (pc' := 613) rfl rfl rfl ?_
  refine zi_iload_n (pc' := 614) rfl rfl rfl ?_
  refine zi_iconst (pc' := 615) rfl rfl ?_
  refine zi_iadd (pc' := 616) rfl rfl ?_
  refine zi_xald (pc' := 617) rfl rfl hL ⟨by omega, by omega⟩ ?_
  refine zi_aload_n (pc' := 618) rfl rfl rfl ?_
  refine zi_iload_n (pc' := 619) rfl rfl rfl ?_
  refine zi_iconst (pc' := 620) rfl rfl ?_
  refine zi_iadd (pc' := 621) rfl rfl ?_
  refine zi_xald (pc' := 622) rfl rfl hL ⟨by omega, by omega⟩ ?_
  refine zi_callV (d' := 2) (as := [_, _]) (pc' := 625) rfl rfl rfl rfl (by decide) (s_M_jar (Q := fun v g' => zk_I g' ∧ zk_fr fr_M_jar g g') (Nat.le_refl _) (k_M_jar I (zw_r _ _) (zw_r _ _) (fun v g' I' F' h0 h1 => ⟨I', F'⟩))) (zi_ki (fun v2 g2 h2 => ?_))
  obtain ⟨I2, F2⟩ := h2
  have c2_0_2 : g2 0 2 = g 0 2 := F2 0 2 (by first | (simp [fr_M_jar]; done) | (unfold fr_M_jar; omega))
  have c2_0_8 : g2 0 8 = g 0 8 := F2 0 8 (by first | (simp [fr_M_jar]; done) | (unfold fr_M_jar; omega))
  have c2_2_8 : g2 2 8 = g 2 8 := F2 2 8 (by first | (simp [fr_M_jar]; done) | (unfold fr_M_jar; omega))
  have c2_2_11 : g2 2 11 = g 2 11 := F2 2 11 (by first | (simp [fr_M_jar]; done) | (unfold fr_M_jar; omega))
  have c2_47_8 : g2 47 8 = g 47 8 := F2 47 8 (by first | (simp [fr_M_jar]; done) | (unfold fr_M_jar; omega))
  have c2_47_11 : g2 47 11 = g 47 11 := F2 47 11 (by first | (simp [fr_M_jar]; done) | (unfold fr_M_jar; omega))
  have c2_214_6 : g2 214 6 = g 214 6 := F2 214 6 (by first | (simp [fr_M_jar]; done) | (unfold fr_M_jar; omega))
  have c2_214_7 : g2 214 7 = g 214 7 := F2 214 7 (by first | (simp [fr_M_jar]; done) | (unfold fr_M_jar; omega))
  have c2_214_13 : g2 214 13 = g 214 13 := F2 214 13 (by first | (simp [fr_M_jar]; done) | (unfold fr_M_jar; omega))
  have c2_214_62 : g2 214 62 = g 214 62 := F2 214 62 (by first | (simp [fr_M_jar]; done) | (unfold fr_M_jar; omega))
  have c2_250_264 : g2 250 264 = g 250 264 := F2 250 264 (by first | (simp [fr_M_jar]; done) | (unfold fr_M_jar; omega))
  have c2_250_265 : g2 250 265 = g 250 265 := F2 250 265 (by first | (simp [fr_M_jar]; done) | (unfold fr_M_jar; omega))
  have Z2 : zP g2 := zP_eq (fun a i hc => F2 a i (zpf_M_jar hc)) R21
  refine zi_pop (pc' := 626) rfl rfl rfl ?_
  refine zi_goto (x := 1356) rfl ?_
  exact k _ ⟨I2, (by rw [c2_0_2, c2_214_62]; exact R0), (by rw [c2_0_8, c2_214_13]; exact R1), (funext fun k => by rw [F2 190 k (by first | (simp [fr_M_jar]; done) | (unfold fr_M_jar; omega)), F2 222 k (by first | (simp [fr_M_jar]; done) | (unfold fr_M_jar; omega))]; exact congrFun R2 k), (by rw [c2_2_8, c2_214_6]; exact R3), (fun q => by rw [c2_47_8, c2_250_264]; exact R4 (by rw [c2_0_2] at q; exact q)), (by rw [c2_2_11, c2_214_7]; exact R5), (fun q => by rw [c2_47_11, c2_250_265]; exact R6 (by rw [c2_0_2] at q; exact q)), (zXw_n R7 (by rw [F2 19 5 (by first | (simp [fr_M_jar]; done) | (unfold fr_M_jar; omega))]) (by rw [F2 214 37 (by first | (simp [fr_M_jar]; done) | (unfold fr_M_jar; omega))]) (fun k => by rw [F2 30 k (by first | (simp [fr_M_jar]; done) | (unfold fr_M_jar; omega))]) (fun k => by rw [F2 31 k (by first | (simp [fr_M_jar]; done) | (unfold fr_M_jar; omega))]) (fun k _ => by rw [F2 233 k (by first | (simp [fr_M_jar]; done) | (unfold fr_M_jar; omega))]) (show 0 ≤ g 19 5 ∧ g 19 5 ≤ 16 from I.1 19 5).2), (fun q => zXwk_n (R8 (by omega)) (by rw [F2 64 5 (by first | (simp [fr_M_jar]; done) | (unfold fr_M_jar; omega))]) (fun k => by rw [F2 75 k (by first | (simp [fr_M_jar]; done) | (unfold fr_M_jar; omega))]) (fun k => by rw [F2 76 k (by first | (simp [fr_M_jar]; done) | (unfold fr_M_jar; omega))]) (fun k => by rw [F2 250 k (by first | (simp [fr_M_jar]; done) | (unfold fr_M_jar; omega))])), (zXg_n R9 (by rw [F2 19 2 (by first | (simp [fr_M_jar]; done) | (unfold fr_M_jar; omega))]) (by rw [F2 214 35 (by first | (simp [fr_M_jar]; done) | (unfold fr_M_jar; omega))]) (fun k => by rw [F2 29 k (by first | (simp [fr_M_jar]; done) | (unfold fr_M_jar; omega))]) (fun k _ => by rw [F2 232 k (by first | (simp [fr_M_jar]; done) | (unfold fr_M_jar; omega))])), (fun q => zXgk_n (R10 (by omega)) (by rw [F2 64 2 (by first | (simp [fr_M_jar]; done) | (unfold fr_M_jar; omega))]) (fun k => by rw [F2 74 k (by first | (simp [fr_M_jar]; done) | (unfold fr_M_jar; omega))]) (fun k => by rw [F2 250 k (by first | (simp [fr_M_jar]; done) | (unfold fr_M_jar; omega))])), (zBD_n R11 (fun a i h => (F2 a i (zbg_M_jarFt h))) (fun a i h => (F2 a i (zbg_M_jarFc h)))), (zRw_n (fun k => by rw [F2 5 k (by first | (simp [fr_M_jar]; done) | (unfold fr_M_jar; omega))]) (fun k => by rw [F2 220 k (by first | (simp [fr_M_jar]; done) | (unfold fr_M_jar; omega))]) R12), (fun q => zRw_nk (fun k => by rw [F2 50 k (by first | (simp [fr_M_jar]; done) | (unfold fr_M_jar; omega))]) (fun k => by rw [F2 250 k (by first | (simp [fr_M_jar]; done) | (unfold fr_M_jar; omega))]) (R13 (by omega))), (zRw_n (fun k => by rw [F2 3 k (by first | (simp [fr_M_jar]; done) | (unfold fr_M_jar; omega))]) (fun k => by rw [F2 218 k (by first | (simp [fr_M_jar]; done) | (unfold fr_M_jar; omega))]) R14), (fun q => zRw_nk (fun k => by rw [F2 48 k (by first | (simp [fr_M_jar]; done) | (unfold fr_M_jar; omega))]) (fun k => by rw [F2 250 k (by first | (simp [fr_M_jar]; done) | (unfold fr_M_jar; omega))]) (R15 (by omega))), (zRw_n (fun k => by rw [F2 4 k (by first | (simp [fr_M_jar]; done) | (unfold fr_M_jar; omega))]) (fun k => by rw [F2 219 k (by first | (simp [fr_M_jar]; done) | (unfold fr_M_jar; omega))]) R16), (fun q => zRw_nk (fun k => by rw [F2 49 k (by first | (simp [fr_M_jar]; done) | (unfold fr_M_jar; omega))]) (fun k => by rw [F2 250 k (by first | (simp [fr_M_jar]; done) | (unfold fr_M_jar; omega))]) (R17 (by omega))), (zLW_n R18 (show 0 ≤ g 224 0 ∧ g 224 0 ≤ 16 from I.1 224 0).2 (fun a i h => (F2 a i (zbg_M_jarFlw h)))), (fun q => zLWk_n (R19 (by omega)) (fun a i h => (F2 a i (zbg_M_jarFlk h)))), (zFD_n R20 (fun a i h => (F2 a i (zbg_M_jarFe h)))), Z2⟩
theorem zpf_M_weather {a : Nat} {i : Int} (hc : zPc a i) : ¬ fr_M_weather a i := fun w => by
  have ha := zPc_le hc
  unfold fr_M_weather at w
  clear hc
  omega
theorem zbg_M_weatherFt {a : Nat} {i : Int} (h : zFt a i) : ¬ fr_M_weather a i := fun w => by
  unfold fr_M_weather at w
  unfold zFt at h
  omega
theorem zbg_M_weatherFc {a : Nat} {i : Int} (h : zFc a i) : ¬ fr_M_weather a i := fun w => by
  unfold fr_M_weather at w
  unfold zFc at h
  omega
theorem zbg_M_weatherFlw {a : Nat} {i : Int} (h : zFlw a i) : ¬ fr_M_weather a i := fun w => by
  unfold fr_M_weather at w
  unfold zFlw at h
  omega
theorem zbg_M_weatherFlk {a : Nat} {i : Int} (h : zFlk a i) : ¬ fr_M_weather a i := fun w => by
  unfold fr_M_weather at w
  unfold zFlk at h
  omega
theorem zbg_M_weatherFe {a : Nat} {i : Int} (h : zFe a i) : ¬ fr_M_weather a i := fun w => by
  unfold fr_M_weather at w
  unfold zFe at h
  omega
set_option maxRecDepth 100000 in
set_option maxHeartbeats 4000000 in
theorem zw_c13 {E : sx_E} {i : Int} {g : zi_M} (hL : sx_Ln E ≤ 3072) (h0 : 0 ≤ i) (h6 : i + 6 ≤ ((sx_Ln E : Nat) : Int)) (R : zw_R g) (k : ∀ g' : zi_M, zw_R g' → zi_W E 420 326 1356 [some (.ref 1000000000), some (.ref 0), some (.ref 214), some (zi_i i)] [] g' zw_Q) : zi_W E 420 326 629 [some (.ref 1000000000), some (.ref 0), some (.ref 214), some (zi_i i)] [] g zw_Q := by
  obtain ⟨I, R0, R1, R2, R3, R4, R5, R6, R7, R8, R9, R10, R11, R12, R13, R14, R15, R16, R17, R18, R19, R20, R21⟩ := R
  refine zi_aload_n (pc' := 630) rfl rfl rfl ?_
  refine zi_aload_n (pc' := 631) rfl rfl rfl ?_
  refine zi_iload_n (pc' := 632) rfl rfl rfl ?_
  refine zi_iconst (pc' := 633) rfl rfl ?_
  refine zi_iadd (pc' := 634) rfl rfl ?_
  refine zi_xald (pc' := 635) rfl rfl hL ⟨by omega, by omega⟩ ?_
  refine zi_callV (d' := 2) (as := [_]) (pc' := 638) rfl rfl rfl rfl (by decide) (s_S_weather (Q := fun v g' => g' = g) (Nat.le_refl _) (k_S_weather I (zw_r _ _) (by intros; rfl))) (zi_ki (fun v1 g1 h1 => ?_))
  have E1 : g1 = g := h1
  rw [E1]
  refine zi_pop (pc' := 639) rfl rfl rfl ?_
  refine zi_aload_n (pc' := 640) rfl rfl rfl ?_
  refine zi_aload_n (pc' := 641) rfl rfl rfl ?_
  refine zi_iload_n (pc' := 642) rfl rfl rfl ?_
  refine zi_iconst (pc' := 643) rfl rfl ?_
  refine zi_iadd (pc' := 644) rfl rfl ?_
  refine zi_xald (pc' := 645) rfl rfl hL ⟨by omega, by omega⟩ ?_
  refine zi_callV (d' := 2) (as := [_]) (pc' := 648) rfl rfl rfl rfl (by decide) (s_M_weather (Q := fun v g' => zk_I g' ∧ zk_fr fr_M_weather g g') (Nat.le_refl _) (k_M_weather I (zw_r _ _) (fun v g' I' F' h0 h1 => ⟨I', F'⟩))) (zi_ki (fun v2 g2 h2 => ?_))
  obtain ⟨I2, F2⟩ := h2
  have c2_0_2 : g2 0 2 = g 0 2 := F2 0 2 (by first | (simp [fr_M_weather]; done) | (unfold fr_M_weather; omega))
  have c2_0_8 : g2 0 8 = g 0 8 := F2 0 8 (by first | (simp [fr_M_weather]; done) | (unfold fr_M_weather; omega))
  have c2_2_8 : g2 2 8 = g 2 8 := F2 2 8 (by first | (simp [fr_M_weather]; done) | (unfold fr_M_weather; omega))
  have c2_2_11 : g2 2 11 = g 2 11 := F2 2 11 (by first | (simp [fr_M_weather]; done) | (unfold fr_M_weather; omega))
  have c2_47_8 : g2 47 8 = g 47 8 := F2 47 8 (by first | (simp [fr_M_weather]; done) | (unfold fr_M_weather; omega))
  have c2_47_11 : g2 47 11 = g 47 11 := F2 47 11 (by first | (simp [fr_M_weather]; done) | (unfold fr_M_weather; omega))
  have c2_214_6 : g2 214 6 = g 214 6 := F2 214 6 (by first | (simp [fr_M_weather]; done) | (unfold fr_M_weather; omega))
  have c2_214_7 : g2 214 7 = g 214 7 := F2 214 7 (by first | (simp [fr_M_weather]; done) | (unfold fr_M_weather; omega))
  have c2_214_13 : g2 214 13 = g 214 13 := F2 214 13 (by first | (simp [fr_M_weather]; done) | (unfold fr_M_weather; omega))
  have c2_214_62 : g2 214 62 = g 214 62 := F2 214 62 (by first | (simp [fr_M_weather]; done) | (unfold fr_M_weather; omega))
  have c2_250_264 : g2 250 264 = g 250 264 := F2 250 264 (by first | (simp [fr_M_weather]; done) | (unfold fr_M_weather; omega))
  have c2_250_265 : g2 250 265 = g 250 265 := F2 250 265 (by first | (simp [fr_M_weather]; done) | (unfold fr_M_weather; omega))
  have Z2 : zP g2 := zP_eq (fun a i hc => F2 a i (zpf_M_weather hc)) R21
  refine zi_pop (pc' := 649) rfl rfl rfl ?_
  refine zi_goto (x := 1356) rfl ?_
  exact k _ ⟨I2, (by rw [c2_0_2, c2_214_62]; exact R0), (by rw [c2_0_8, c2_214_13]; exact R1), (funext fun k => by rw [F2 190 k (by first | (simp [fr_M_weather]; done) | (unfold fr_M_weather; omega)), F2 222 k (by first | (simp [fr_M_weather]; done) | (unfold fr_M_weather; omega))]; exact congrFun R2 k), (by rw [c2_2_8, c2_214_6]; exact R3), (fun q => by rw [c2_47_8, c2_250_264]; exact R4 (by rw [c2_0_2] at q; exact q)), (by rw [c2_2_11, c2_214_7]; exact R5), (fun q => by rw [c2_47_11, c2_250_265]; exact R6 (by rw [c2_0_2] at q; exact q)), (zXw_n R7 (by rw [F2 19 5 (by first | (simp [fr_M_weather]; done) | (unfold fr_M_weather; omega))]) (by rw [F2 214 37 (by first | (simp [fr_M_weather]; done) | (unfold fr_M_weather; omega))]) (fun k => by rw [F2 30 k (by first | (simp [fr_M_weather]; done) | (unfold fr_M_weather; omega))]) (fun k => by rw [F2 31 k (by first | (simp [fr_M_weather]; done) | (unfold fr_M_weather; omega))]) (fun k _ => by rw [F2 233 k (by first | (simp [fr_M_weather]; done) | (unfold fr_M_weather; omega))]) (show 0 ≤ g 19 5 ∧ g 19 5 ≤ 16 from I.1 19 5).2), (fun q => zXwk_n (R8 (by omega)) (by rw [F2 64 5 (by first | (simp [fr_M_weather]; done) | (unfold fr_M_weather; omega))]) (fun k => by rw [F2 75 k (by first | (simp [fr_M_weather]; done) | (unfold fr_M_weather; omega))]) (fun k => by rw [F2 76 k (by first | (simp [fr_M_weather]; done) | (unfold fr_M_weather; omega))]) (fun k => by rw [F2 250 k (by first | (simp [fr_M_weather]; done) | (unfold fr_M_weather; omega))])), (zXg_n R9 (by rw [F2 19 2 (by first | (simp [fr_M_weather]; done) | (unfold fr_M_weather; omega))]) (by rw [F2 214 35 (by first | (simp [fr_M_weather]; done) | (unfold fr_M_weather; omega))]) (fun k => by rw [F2 29 k (by first | (simp [fr_M_weather]; done) | (unfold fr_M_weather; omega))]) (fun k _ => by rw [F2 232 k (by first | (simp [fr_M_weather]; done) | (unfold fr_M_weather; omega))])), (fun q => zXgk_n (R10 (by omega)) (by rw [F2 64 2 (by first | (simp [fr_M_weather]; done) | (unfold fr_M_weather; omega))]) (fun k => by rw [F2 74 k (by first | (simp [fr_M_weather]; done) | (unfold fr_M_weather; omega))]) (fun k => by rw [F2 250 k (by first | (simp [fr_M_weather]; done) | (unfold fr_M_weather; omega))])), (zBD_n R11 (fun a i h => (F2 a i (zbg_M_weatherFt h))) (fun a i h => (F2 a i (zbg_M_weatherFc h)))), (zRw_n (fun k => by rw [F2 5 k (by first | (simp [fr_M_weather]; done) | (unfold fr_M_weather; omega))]) (fun k => by rw [F2 220 k (by first | (simp [fr_M_weather]; done) | (unfold fr_M_weather; omega))]) R12), (fun q => zRw_nk (fun k => by rw [F2 50 k (by first | (simp [fr_M_weather]; done) | (unfold fr_M_weather; omega))]) (fun k => by rw [F2 250 k (by first | (simp [fr_M_weather]; done) | (unfold fr_M_weather; omega))]) (R13 (by omega))), (zRw_n (fun k => by rw [F2 3 k (by first | (simp [fr_M_weather]; done) | (unfold fr_M_weather; omega))]) (fun k => by rw [F2 218 k (by first | (simp [fr_M_weather]; done) | (unfold fr_M_weather; omega))]) R14), (fun q => zRw_nk (fun k => by rw [F2 48 k (by first | (simp [fr_M_weather]; done) | (unfold fr_M_weather; omega))]) (fun k => by rw [F2 250 k (by first | (simp [fr_M_weather]; done) | (unfold fr_M_weather; omega))]) (R15 (by omega))), (zRw_n (fun k => by rw [F2 4 k (by first | (simp [fr_M_weather]; done) | (unfold fr_M_weather; omega))]) (fun k => by rw [F2 219 k (by first | (simp [fr_M_weather]; done) | (unfold fr_M_weather; omega))]) R16), (fun q => zRw_nk (fun k => by rw [F2 49 k (by first | (simp [fr_M_weather]; done) | (unfold fr_M_weather; omega))]) (fun k => by rw [F2 250 k (by first | (simp [fr_M_weather]; done) | (unfold fr_M_weather; omega))]) (R17 (by omega))), (zLW_n R18 (show 0 ≤ g 224 0 ∧ g 224 0 ≤ 16 from I.1 224 0).2 (fun a i h => (F2 a i (zbg_M_weatherFlw h)))), (fun q => zLWk_n (R19 (by omega)) (fun a i h => (F2 a i (zbg_M_weatherFlk h)))), (zFD_n R20 (fun a i h => (F2 a i (zbg_M_weatherFe h)))), Z2⟩
