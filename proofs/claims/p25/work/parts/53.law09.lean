-- by program (wip/gen/mklaw.py)
theorem zpf_S_ways {a : Nat} {i : Int} (hc : zPc a i) : ¬ fr_S_ways a i := fun w => by
  unfold fr_S_ways at w
  unfold zPc at hc
  omega
theorem zpf_M_ways {a : Nat} {i : Int} (hc : zPc a i) : ¬ fr_M_ways a i := fun w => by
  have ha := zPc_le hc
  unfold fr_M_ways at w
  clear hc
  omega
theorem zbg_M_waysFt {a : Nat} {i : Int} (h : zFt a i) : ¬ fr_M_ways a i := fun w => by
  unfold fr_M_ways at w
  unfold zFt at h
  omega
theorem zbg_S_waysFt {a : Nat} {i : Int} (h : zFt a i) : ¬ fr_S_ways a i := fun w => by
  unfold fr_S_ways at w
  unfold zFt at h
  omega
theorem zbg_M_waysFc {a : Nat} {i : Int} (h : zFc a i) : ¬ fr_M_ways a i := fun w => by
  unfold fr_M_ways at w
  unfold zFc at h
  omega
theorem zbg_S_waysFc {a : Nat} {i : Int} (h : zFc a i) : ¬ fr_S_ways a i := fun w => by
  unfold fr_S_ways at w
  unfold zFc at h
  omega
theorem zbg_M_waysFlw {a : Nat} {i : Int} (h : zFlw a i) : ¬ fr_M_ways a i := fun w => by
  unfold fr_M_ways at w
  unfold zFlw at h
  omega
theorem zbg_S_waysFlw {a : Nat} {i : Int} (h : zFlw a i) : ¬ fr_S_ways a i := fun w => by
  unfold fr_S_ways at w
  unfold zFlw at h
  omega
theorem zbg_M_waysFlk {a : Nat} {i : Int} (h : zFlk a i) : ¬ fr_M_ways a i := fun w => by
  unfold fr_M_ways at w
  unfold zFlk at h
  omega
theorem zbg_S_waysFlk {a : Nat} {i : Int} (h : zFlk a i) : ¬ fr_S_ways a i := fun w => by
  unfold fr_S_ways at w
  unfold zFlk at h
  omega
theorem zbg_M_waysFe {a : Nat} {i : Int} (h : zFe a i) : ¬ fr_M_ways a i := fun w => by
  unfold fr_M_ways at w
  unfold zFe at h
  omega
theorem zbg_S_waysFe {a : Nat} {i : Int} (h : zFe a i) : ¬ fr_S_ways a i := fun w => by
  unfold fr_S_ways at w
  unfold zFe at h
  omega
set_option maxRecDepth 100000 in
set_option maxHeartbeats 4000000 in
theorem zw_c20 {E : sx_E} {i : Int} {g : zi_M} (hL : sx_Ln E ≤ 3072) (h0 : 0 ≤ i) (h6 : i + 6 ≤ ((sx_Ln E : Nat) : Int)) (R : zw_R g) (k : ∀ g' : zi_M, zw_R g' → zi_W E 420 326 1356 [some (.ref 1000000000), some (.ref 0), some (.ref 214), some (zi_i i)] [] g' zw_Q) : zi_W E 420 326 840 [some (.ref 1000000000), some (.ref 0), some (.ref 214), some (zi_i i)] [] g zw_Q := by
  obtain ⟨I, R0, R1, R2, R3, R4, R5, R6, R7, R8, R9, R10, R11, R12, R13, R14, R15, R16, R17, R18, R19, R20, R21⟩ := R
  refine zi_aload_n (pc' := 841) rfl rfl rfl ?_
  refine zi_aload_n (pc' := 842) rfl rfl rfl ?_
  refine zi_iload_n (pc' := 843) rfl rfl rfl ?_
  refine zi_iconst (pc' := 844) rfl rfl ?_
  refine zi_iadd (pc' := 845) rfl rfl ?_
  refine zi_xald (pc' := 846) rfl rfl hL ⟨by omega, by omega⟩ ?_
  refine zi_callV (d' := 16) (as := [_]) (pc' := 849) rfl rfl rfl rfl (by decide) (s_S_ways (Q := fun v g' => zk_I g' ∧ zk_fr fr_S_ways g g') (Nat.le_refl _) (k_S_ways I (zw_r _ _) (fun v g' I' F' h0 => ⟨I', F'⟩))) (zi_ki (fun v1 g1 h1 => ?_))
  obtain ⟨I1, F1⟩ := h1
  have c1_0_2 : g1 0 2 = g 0 2 := F1 0 2 (by first | (simp [fr_S_ways]; done) | (unfold fr_S_ways; omega))
  have c1_0_8 : g1 0 8 = g 0 8 := F1 0 8 (by first | (simp [fr_S_ways]; done) | (unfold fr_S_ways; omega))
  have c1_2_8 : g1 2 8 = g 2 8 := F1 2 8 (by first | (simp [fr_S_ways]; done) | (unfold fr_S_ways; omega))
  have c1_2_11 : g1 2 11 = g 2 11 := F1 2 11 (by first | (simp [fr_S_ways]; done) | (unfold fr_S_ways; omega))
  have c1_47_8 : g1 47 8 = g 47 8 := F1 47 8 (by first | (simp [fr_S_ways]; done) | (unfold fr_S_ways; omega))
  have c1_47_11 : g1 47 11 = g 47 11 := F1 47 11 (by first | (simp [fr_S_ways]; done) | (unfold fr_S_ways; omega))
  have c1_214_6 : g1 214 6 = g 214 6 := F1 214 6 (by first | (simp [fr_S_ways]; done) | (unfold fr_S_ways; omega))
  have c1_214_7 : g1 214 7 = g 214 7 := F1 214 7 (by first | (simp [fr_S_ways]; done) | (unfold fr_S_ways; omega))
  have c1_214_13 : g1 214 13 = g 214 13 := F1 214 13 (by first | (simp [fr_S_ways]; done) | (unfold fr_S_ways; omega))
  have c1_214_62 : g1 214 62 = g 214 62 := F1 214 62 (by first | (simp [fr_S_ways]; done) | (unfold fr_S_ways; omega))
  have c1_250_264 : g1 250 264 = g 250 264 := F1 250 264 (by first | (simp [fr_S_ways]; done) | (unfold fr_S_ways; omega))
  have c1_250_265 : g1 250 265 = g 250 265 := F1 250 265 (by first | (simp [fr_S_ways]; done) | (unfold fr_S_ways; omega))
  have Z1 : zP g1 := zP_eq (fun a i hc => F1 a i (zpf_S_ways hc)) R21
  refine zi_pop (pc' := 850) rfl rfl rfl ?_
  refine zi_aload_n (pc' := 851) rfl rfl rfl ?_
  refine zi_aload_n (pc' := 852) rfl rfl rfl ?_
  refine zi_iload_n (pc' := 853) rfl rfl rfl ?_
  refine zi_iconst (pc' := 854) rfl rfl ?_
  refine zi_iadd (pc' := 855) rfl rfl ?_
  refine zi_xald (pc' := 856) rfl rfl hL ⟨by omega, by omega⟩ ?_
  refine zi_callV (d' := 4) (as := [_]) (pc' := 859) rfl rfl rfl rfl (by decide) (s_M_ways (Q := fun v g' => zk_I g' ∧ zk_fr fr_M_ways g1 g') (Nat.le_refl _) (k_M_ways I1 (zw_r _ _) (fun v g' I' F' h0 => ⟨I', F'⟩))) (zi_ki (fun v2 g2 h2 => ?_))
  obtain ⟨I2, F2⟩ := h2
  have c2_0_2 : g2 0 2 = g1 0 2 := F2 0 2 (by first | (simp [fr_M_ways]; done) | (unfold fr_M_ways; omega))
  have c2_0_8 : g2 0 8 = g1 0 8 := F2 0 8 (by first | (simp [fr_M_ways]; done) | (unfold fr_M_ways; omega))
  have c2_2_8 : g2 2 8 = g1 2 8 := F2 2 8 (by first | (simp [fr_M_ways]; done) | (unfold fr_M_ways; omega))
  have c2_2_11 : g2 2 11 = g1 2 11 := F2 2 11 (by first | (simp [fr_M_ways]; done) | (unfold fr_M_ways; omega))
  have c2_47_8 : g2 47 8 = g1 47 8 := F2 47 8 (by first | (simp [fr_M_ways]; done) | (unfold fr_M_ways; omega))
  have c2_47_11 : g2 47 11 = g1 47 11 := F2 47 11 (by first | (simp [fr_M_ways]; done) | (unfold fr_M_ways; omega))
  have c2_214_6 : g2 214 6 = g1 214 6 := F2 214 6 (by first | (simp [fr_M_ways]; done) | (unfold fr_M_ways; omega))
  have c2_214_7 : g2 214 7 = g1 214 7 := F2 214 7 (by first | (simp [fr_M_ways]; done) | (unfold fr_M_ways; omega))
  have c2_214_13 : g2 214 13 = g1 214 13 := F2 214 13 (by first | (simp [fr_M_ways]; done) | (unfold fr_M_ways; omega))
  have c2_214_62 : g2 214 62 = g1 214 62 := F2 214 62 (by first | (simp [fr_M_ways]; done) | (unfold fr_M_ways; omega))
  have c2_250_264 : g2 250 264 = g1 250 264 := F2 250 264 (by first | (simp [fr_M_ways]; done) | (unfold fr_M_ways; omega))
  have c2_250_265 : g2 250 265 = g1 250 265 := F2 250 265 (by first | (simp [fr_M_ways]; done) | (unfold fr_M_ways; omega))
  have Z2 : zP g2 := zP_eq (fun a i hc => F2 a i (zpf_M_ways hc)) Z1
  refine zi_pop (pc' := 860) rfl rfl rfl ?_
  refine zi_goto (x := 1356) rfl ?_
  exact k _ ⟨I2, (by rw [c2_0_2, c1_0_2, c2_214_62, c1_214_62]; exact R0), (by rw [c2_0_8, c1_0_8, c2_214_13, c1_214_13]; exact R1), (funext fun k => by rw [F2 190 k (by first | (simp [fr_M_ways]; done) | (unfold fr_M_ways; omega)), F1 190 k (by first | (simp [fr_S_ways]; done) | (unfold fr_S_ways; omega)), F2 222 k (by first | (simp [fr_M_ways]; done) | (unfold fr_M_ways; omega)), F1 222 k (by first | (simp [fr_S_ways]; done) | (unfold fr_S_ways; omega))]; exact congrFun R2 k), (by rw [c2_2_8, c1_2_8, c2_214_6, c1_214_6]; exact R3), (fun q => by rw [c2_47_8, c1_47_8, c2_250_264, c1_250_264]; exact R4 (by rw [c2_0_2, c1_0_2] at q; exact q)), (by rw [c2_2_11, c1_2_11, c2_214_7, c1_214_7]; exact R5), (fun q => by rw [c2_47_11, c1_47_11, c2_250_265, c1_250_265]; exact R6 (by rw [c2_0_2, c1_0_2] at q; exact q)), (zXw_n R7 (by rw [F2 19 5 (by first | (simp [fr_M_ways]; done) | (unfold fr_M_ways; omega)), F1 19 5 (by first | (simp [fr_S_ways]; done) | (unfold fr_S_ways; omega))]) (by rw [F2 214 37 (by first | (simp [fr_M_ways]; done) | (unfold fr_M_ways; omega)), F1 214 37 (by first | (simp [fr_S_ways]; done) | (unfold fr_S_ways; omega))]) (fun k => by rw [F2 30 k (by first | (simp [fr_M_ways]; done) | (unfold fr_M_ways; omega)), F1 30 k (by first | (simp [fr_S_ways]; done) | (unfold fr_S_ways; omega))]) (fun k => by rw [F2 31 k (by first | (simp [fr_M_ways]; done) | (unfold fr_M_ways; omega)), F1 31 k (by first | (simp [fr_S_ways]; done) | (unfold fr_S_ways; omega))]) (fun k _ => by rw [F2 233 k (by first | (simp [fr_M_ways]; done) | (unfold fr_M_ways; omega)), F1 233 k (by first | (simp [fr_S_ways]; done) | (unfold fr_S_ways; omega))]) (show 0 ≤ g 19 5 ∧ g 19 5 ≤ 16 from I.1 19 5).2), (fun q => zXwk_n (R8 (by omega)) (by rw [F2 64 5 (by first | (simp [fr_M_ways]; done) | (unfold fr_M_ways; omega)), F1 64 5 (by first | (simp [fr_S_ways]; done) | (unfold fr_S_ways; omega))]) (fun k => by rw [F2 75 k (by first | (simp [fr_M_ways]; done) | (unfold fr_M_ways; omega)), F1 75 k (by first | (simp [fr_S_ways]; done) | (unfold fr_S_ways; omega))]) (fun k => by rw [F2 76 k (by first | (simp [fr_M_ways]; done) | (unfold fr_M_ways; omega)), F1 76 k (by first | (simp [fr_S_ways]; done) | (unfold fr_S_ways; omega))]) (fun k => by rw [F2 250 k (by first | (simp [fr_M_ways]; done) | (unfold fr_M_ways; omega)), F1 250 k (by first | (simp [fr_S_ways]; done) | (unfold fr_S_ways; omega))])), (zXg_n R9 (by rw [F2 19 2 (by first | (simp [fr_M_ways]; done) | (unfold fr_M_ways; omega)), F1 19 2 (by first | (simp [fr_S_ways]; done) | (unfold fr_S_ways; omega))]) (by rw [F2 214 35 (by first | (simp [fr_M_ways]; done) | (unfold fr_M_ways; omega)), F1 214 35 (by first | (simp [fr_S_ways]; done) | (unfold fr_S_ways; omega))]) (fun k => by rw [F2 29 k (by first | (simp [fr_M_ways]; done) | (unfold fr_M_ways; omega)), F1 29 k (by first | (simp [fr_S_ways]; done) | (unfold fr_S_ways; omega))]) (fun k _ => by rw [F2 232 k (by first | (simp [fr_M_ways]; done) | (unfold fr_M_ways; omega)), F1 232 k (by first | (simp [fr_S_ways]; done) | (unfold fr_S_ways; omega))])), (fun q => zXgk_n (R10 (by omega)) (by rw [F2 64 2 (by first | (simp [fr_M_ways]; done) | (unfold fr_M_ways; omega)), F1 64 2 (by first | (simp [fr_S_ways]; done) | (unfold fr_S_ways; omega))]) (fun k => by rw [F2 74 k (by first | (simp [fr_M_ways]; done) | (unfold fr_M_ways; omega)), F1 74 k (by first | (simp [fr_S_ways]; done) | (unfold fr_S_ways; omega))]) (fun k => by rw [F2 250 k (by first | (simp [fr_M_ways]; done) | (unfold fr_M_ways; omega)), F1 250 k (by first | (simp [fr_S_ways]; done) | (unfold fr_S_ways; omega))])), (zBD_n R11 (fun a i h => (F2 a i (zbg_M_waysFt h)).trans (F1 a i (zbg_S_waysFt h))) (fun a i h => (F2 a i (zbg_M_waysFc h)).trans (F1 a i (zbg_S_waysFc h)))), (zRw_n (fun k => by rw [F2 5 k (by first | (simp [fr_M_ways]; done) | (unfold fr_M_ways; omega)), F1 5 k (by first | (simp [fr_S_ways]; done) | (unfold fr_S_ways; omega))]) (fun k => by rw [F2 220 k (by first | (simp [fr_M_ways]; done) | (unfold fr_M_ways; omega)), F1 220 k (by first | (simp [fr_S_ways]; done) | (unfold fr_S_ways; omega))]) R12), (fun q => zRw_nk (fun k => by rw [F2 50 k (by first | (simp [fr_M_ways]; done) | (unfold fr_M_ways; omega)), F1 50 k (by first | (simp [fr_S_ways]; done) | (unfold fr_S_ways; omega))]) (fun k => by rw [F2 250 k (by first | (simp [fr_M_ways]; done) | (unfold fr_M_ways; omega)), F1 250 k (by first | (simp [fr_S_ways]; done) | (unfold fr_S_ways; omega))]) (R13 (by omega))), (zRw_n (fun k => by rw [F2 3 k (by first | (simp [fr_M_ways]; done) | (unfold fr_M_ways; omega)), F1 3 k (by first | (simp [fr_S_ways]; done) | (unfold fr_S_ways; omega))]) (fun k => by rw [F2 218 k (by first | (simp [fr_M_ways]; done) | (unfold fr_M_ways; omega)), F1 218 k (by first | (simp [fr_S_ways]; done) | (unfold fr_S_ways; omega))]) R14), (fun q => zRw_nk (fun k => by rw [F2 48 k (by first | (simp [fr_M_ways]; done) | (unfold fr_M_ways; omega)), F1 48 k (by first | (simp [fr_S_ways]; done) | (unfold fr_S_ways; omega))]) (fun k => by rw [F2 250 k (by first | (simp [fr_M_ways]; done) | (unfold fr_M_ways; omega)), F1 250 k (by first | (simp [fr_S_ways]; done) | (unfold fr_S_ways; omega))]) (R15 (by omega))), (zRw_n (fun k => by rw [F2 4 k (by first | (simp [fr_M_ways]; done) | (unfold fr_M_ways; omega)), F1 4 k (by first | (simp [fr_S_ways]; done) | (unfold fr_S_ways; omega))]) (fun k => by rw [F2 219 k (by first | (simp [fr_M_ways]; done) | (unfold fr_M_ways; omega)), F1 219 k (by first | (simp [fr_S_ways]; done) | (unfold fr_S_ways; omega))]) R16), (fun q => zRw_nk (fun k => by rw [F2 49 k (by first | (simp [fr_M_ways]; done) | (unfold fr_M_ways; omega)), F1 49 k (by first | (simp [fr_S_ways]; done) | (unfold fr_S_ways; omega))]) (fun k => by rw [F2 250 k (by first | (simp [fr_M_ways]; done) | (unfold fr_M_ways; omega)), F1 250 k (by first | (simp [fr_S_ways]; done) | (unfold fr_S_ways; omega))]) (R17 (by omega))), (zLW_n R18 (show 0 ≤ g 224 0 ∧ g 224 0 ≤ 16 from I.1 224 0).2 (fun a i h => (F2 a i (zbg_M_waysFlw h)).trans (F1 a i (zbg_S_waysFlw h)))), (fun q => zLWk_n (R19 (by omega)) (fun a i h => (F2 a i (zbg_M_waysFlk h)).trans (F1 a i (zbg_S_waysFlk h)))), (zFD_n R20 (fun a i h => (F2 a i (zbg_M_waysFe h)).trans (F1 a i (zbg_S_waysFe h)))), Z2⟩
theorem zpf_S_quarrel {a : Nat} {i : Int} (hc : zPc a i) : ¬ fr_S_quarrel a i := fun w => by
  unfold fr_S_quarrel at w
  unfold zPc at hc
  omega
theorem zpf_M_quarrel {a : Nat} {i : Int} (hc : zPc a i) : ¬ fr_M_quarrel a i := fun w => by
  have ha := zPc_le hc
  unfold fr_M_quarrel at w
  clear hc
  omega
theorem zbg_M_quarrelFt {a : Nat} {i : Int} (h : zFt a i) : ¬ fr_M_quarrel a i := fun w => by
  unfold fr_M_quarrel at w
  unfold zFt at h
  omega
theorem zbg_S_quarrelFt {a : Nat} {i : Int} (h : zFt a i) : ¬ fr_S_quarrel a i := fun w => by
  unfold fr_S_quarrel at w
  unfold zFt at h
  omega
theorem zbg_M_quarrelFc {a : Nat} {i : Int} (h : zFc a i) : ¬ fr_M_quarrel a i := fun w => by
  unfold fr_M_quarrel at w
  unfold zFc at h
  omega
theorem zbg_S_quarrelFc {a : Nat} {i : Int} (h : zFc a i) : ¬ fr_S_quarrel a i := fun w => by
  unfold fr_S_quarrel at w
  unfold zFc at h
  omega
theorem zbg_M_quarrelFlw {a : Nat} {i : Int} (h : zFlw a i) : ¬ fr_M_quarrel a i := fun w => by
  unfold fr_M_quarrel at w
  unfold zFlw at h
  omega
theorem zbg_S_quarrelFlw {a : Nat} {i : Int} (h : zFlw a i) : ¬ fr_S_quarrel a i := fun w => by
  unfold fr_S_quarrel at w
  unfold zFlw at h
  omega
theorem zbg_M_quarrelFlk {a : Nat} {i : Int} (h : zFlk a i) : ¬ fr_M_quarrel a i := fun w => by
  unfold fr_M_quarrel at w
  unfold zFlk at h
  omega
theorem zbg_S_quarrelFlk {a : Nat} {i : Int} (h : zFlk a i) : ¬ fr_S_quarrel a i := fun w => by
  unfold fr_S_quarrel at w
  unfold zFlk at h
  omega
theorem zbg_M_quarrelFe {a : Nat} {i : Int} (h : zFe a i) : ¬ fr_M_quarrel a i := fun w => by
  unfold fr_M_quarrel at w
  unfold zFe at h
  omega
theorem zbg_S_quarrelFe {a : Nat} {i : Int} (h : zFe a i) : ¬ fr_S_quarrel a i := fun w => by
  unfold fr_S_quarrel at w
  unfold zFe at h
  omega
set_option maxRecDepth 100000 in
set_option maxHeartbeats 4000000 in
theorem zw_c21 {E : sx_E} {i : Int} {g : zi_M} (hL : sx_Ln E ≤ 3072) (h0 : 0 ≤ i) (h6 : i + 6 ≤ ((sx_Ln E : Nat) : Int)) (R : zw_R g) (k : ∀ g' : zi_M, zw_R g' → zi_W E 420 326 1356 [some (.ref 1000000000), some (.ref 0), some (.ref 214), some (zi_i i)] [] g' zw_Q) : zi_W E 420 326 863 [some (.ref 1000000000), some (.ref 0), some (.ref 214), some (zi_i i)] [] g zw_Q := by
  obtain ⟨I, R0, R1, R2, R3, R4, R5, R6, R7, R8, R9, R10, R11, R12, R13, R14, R15, R16, R17, R18, R19, R20, R21⟩ := R
  refine zi_aload_n (pc' := 864) rfl rfl rfl ?_
  refine zi_aload_n (pc' := 865) rfl rfl rfl ?_
  refine zi_iload_n (pc' := 866) rfl rfl rfl ?_
  refine zi_iconst (pc' := 867) rfl rfl ?_
  refine zi_iadd (pc' := 868) rfl rfl ?_
  refine zi_xald (pc' := 869) rfl rfl hL ⟨by omega, by omega⟩ ?_
  refine zi_aload_n (pc' := 870) rfl rfl rfl ?_
  refine zi_iload_n (pc' := 871) rfl rfl rfl ?_
  refine zi_iconst (pc' := 872) rfl rfl ?_
  refine zi_iadd (pc' := 873) rfl rfl ?_
  refine zi_xald (pc' := 874) rfl rfl hL ⟨by omega, by omega⟩ ?_
  refine zi_callV (d' := 1) (as := [_, _]) (pc' := 877) rfl rfl rfl rfl (by decide) (s_S_quarrel (Q := fun v g' => zk_I g' ∧ zk_fr fr_S_quarrel g g') (Nat.le_refl _) (k_S_quarrel I (zw_r _ _) (zw_r _ _) (fun v g' I' F' h0 h1 h2 h3 => ⟨I', F'⟩))) (zi_ki (fun v1 g1 h1 => ?_))
  obtain ⟨I1, F1⟩ := h1
  have c1_0_2 : g1 0 2 = g 0 2 := F1 0 2 (by first | (simp [fr_S_quarrel]; done) | (unfold fr_S_quarrel; omega))
  have c1_0_8 : g1 0 8 = g 0 8 := F1 0 8 (by first | (simp [fr_S_quarrel]; done) | (unfold fr_S_quarrel; omega))
  have c1_2_8 : g1 2 8 = g 2 8 := F1 2 8 (by first | (simp [fr_S_quarrel]; done) | (unfold fr_S_quarrel; omega))
  have c1_2_11 : g1 2 11 = g 2 11 := F1 2 11 (by first | (simp [fr_S_quarrel]; done) | (unfold fr_S_quarrel; omega))
  have c1_47_8 : g1 47 8 = g 47 8 := F1 47 8 (by first | (simp [fr_S_quarrel]; done) | (unfold fr_S_quarrel; omega))
  have c1_47_11 : g1 47 11 = g 47 11 := F1 47 11 (by first | (simp [fr_S_quarrel]; done) | (unfold fr_S_quarrel; omega))
  have c1_214_6 : g1 214 6 = g 214 6 := F1 214 6 (by first | (simp [fr_S_quarrel]; done) | (unfold fr_S_quarrel; omega))
  have c1_214_7 : g1 214 7 = g 214 7 := F1 214 7 (by first | (simp [fr_S_quarrel]; done) | (unfold fr_S_quarrel; omega))
  have c1_214_13 : g1 214 13 = g 214 13 := F1 214 13 (by first | (simp [fr_S_quarrel]; done) | (unfold fr_S_quarrel; omega))
  have c1_214_62 : g1 214 62 = g 214 62 := F1 214 62 (by first | (simp [fr_S_quarrel]; done) | (unfold fr_S_quarrel; omega))
  have c1_250_264 : g1 250 264 = g 250 264 := F1 250 264 (by first | (simp [fr_S_quarrel]; done) | (unfold fr_S_quarrel; omega))
  have c1_250_265 : g1 250 265 = g 250 265 := F1 250 265 (by first | (simp [fr_S_quarrel]; done) | (unfold fr_S_quarrel; omega))
  have Z1 : zP g1 := zP_eq (fun a i hc => F1 a i (zpf_S_quarrel hc)) R21
  refine zi_pop (pc' := 878) rfl rfl rfl ?_
  refine zi_aload_n (pc' := 879) rfl rfl rfl ?_
  refine zi_aload_n (pc' := 880) rfl rfl rfl ?_
  refine zi_iload_n (pc' := 881) rfl rfl rfl ?_
  refine zi_iconst (pc' := 882) rfl rfl ?_
  refine zi_iadd (pc' := 883) rfl rfl ?_
  refine zi_xald (pc' := 884) rfl rfl hL ⟨by omega, by omega⟩ ?_
  refine zi_aload_n (pc' := 885) rfl rfl rfl ?_
  refine zi_iload_n (pc' := 886) rfl rfl rfl ?_
  refine zi_iconst (pc' := 887) rfl rfl ?_
  refine zi_iadd (pc' := 888) rfl rfl ?_
  refine zi_xald (pc' := 889) rfl rfl hL ⟨by omega, by omega⟩ ?_
  refine zi_callV (d' := 2) (as := [_, _]) (pc' := 892) rfl rfl rfl rfl (by decide) (s_M_quarrel (Q := fun v g' => zk_I g' ∧ zk_fr fr_M_quarrel g1 g') (Nat.le_refl _) (k_M_quarrel I1 (zw_r _ _) (zw_r _ _) (fun v g' I' F' h0 h1 h2 h3 => ⟨I', F'⟩))) (zi_ki (fun v2 g2 h2 => ?_))
  obtain ⟨I2, F2⟩ := h2
  have c2_0_2 : g2 0 2 = g1 0 2 := F2 0 2 (by first | (simp [fr_M_quarrel]; done) | (unfold fr_M_quarrel; omega))
  have c2_0_8 : g2 0 8 = g1 0 8 := F2 0 8 (by first | (simp [fr_M_quarrel]; done) | (unfold fr_M_quarrel; omega))
  have c2_2_8 : g2 2 8 = g1 2 8 := F2 2 8 (by first | (simp [fr_M_quarrel]; done) | (unfold fr_M_quarrel; omega))
  have c2_2_11 : g2 2 11 = g1 2 11 := F2 2 11 (by first | (simp [fr_M_quarrel]; done) | (unfold fr_M_quarrel; omega))
  have c2_47_8 : g2 47 8 = g1 47 8 := F2 47 8 (by first | (simp [fr_M_quarrel]; done) | (unfold fr_M_quarrel; omega))
  have c2_47_11 : g2 47 11 = g1 47 11 := F2 47 11 (by first | (simp [fr_M_quarrel]; done) | (unfold fr_M_quarrel; omega))
  have c2_214_6 : g2 214 6 = g1 214 6 := F2 214 6 (by first | (simp [fr_M_quarrel]; done) | (unfold fr_M_quarrel; omega))
  have c2_214_7 : g2 214 7 = g1 214 7 := F2 214 7 (by first | (simp [fr_M_quarrel]; done) | (unfold fr_M_quarrel; omega))
  have c2_214_13 : g2 214 13 = g1 214 13 := F2 214 13 (by first | (simp [fr_M_quarrel]; done) | (unfold fr_M_quarrel; omega))
  have c2_214_62 : g2 214 62 = g1 214 62 := F2 214 62 (by first | (simp [fr_M_quarrel]; done) | (unfold fr_M_quarrel; omega))
  have c2_250_264 : g2 250 264 = g1 250 264 := F2 250 264 (by first | (simp [fr_M_quarrel]; done) | (unfold fr_M_quarrel; omega))
  have c2_250_265 : g2 250 265 = g1 250 265 := F2 250 265 (by first | (simp [fr_M_quarrel]; done) | (unfold fr_M_quarrel; omega))
  have Z2 : zP g2 := zP_eq (fun a i hc => F2 a i (zpf_M_quarrel hc)) Z1
  refine zi_pop (pc' := 893) rfl rfl rfl ?_
  refine zi_goto (x := 1356) rfl ?_
  exact k _ ⟨I2, (by rw [c2_0_2, c1_0_2, c2_214_62, c1_214_62]; exact R0), (by rw [c2_0_8, c1_0_8, c2_214_13, c1_214_13]; exact R1), (funext fun k => by rw [F2 190 k (by first | (simp [fr_M_quarrel]; done) | (unfold fr_M_quarrel; omega)), F1 190 k (by first | (simp [fr_S_quarrel]; done) | (unfold fr_S_quarrel; omega)), F2 222 k (by first | (simp [fr_M_quarrel]; done) | (unfold fr_M_quarrel; omega)), F1 222 k (by first | (simp [fr_S_quarrel]; done) | (unfold fr_S_quarrel; omega))]; exact congrFun R2 k), (by rw [c2_2_8, c1_2_8, c2_214_6, c1_214_6]; exact R3), (fun q => by rw [c2_47_8, c1_47_8, c2_250_264, c1_250_264]; exact R4 (by rw [c2_0_2, c1_0_2] at q; exact q)), (by rw [c2_2_11, c1_2_11, c2_214_7, c1_214_7]; exact R5), (fun q => by rw [c2_47_11, c1_47_11, c2_250_265, c1_250_265]; exact R6 (by rw [c2_0_2, c1_0_2] at q; exact q)), (zXw_n R7 (by rw [F2 19 5 (by first | (simp [fr_M_quarrel]; done) | (unfold fr_M_quarrel; omega)), F1 19 5 (by first | (simp [fr_S_quarrel]; done) | (unfold fr_S_quarrel; omega))]) (by rw [F2 214 37 (by first | (simp [fr_M_quarrel]; done) | (unfold fr_M_quarrel; omega)), F1 214 37 (by first | (simp [fr_S_quarrel]; done) | (unfold fr_S_quarrel; omega))]) (fun k => by rw [F2 30 k (by first | (simp [fr_M_quarrel]; done) | (unfold fr_M_quarrel; omega)), F1 30 k (by first | (simp [fr_S_quarrel]; done) | (unfold fr_S_quarrel; omega))]) (fun k => by rw [F2 31 k (by first | (simp [fr_M_quarrel]; done) | (unfold fr_M_quarrel; omega)), F1 31 k (by first | (simp [fr_S_quarrel]; done) | (unfold fr_S_quarrel; omega))]) (fun k _ => by rw [F2 233 k (by first | (simp [fr_M_quarrel]; done) | (unfold fr_M_quarrel; omega)), F1 233 k (by first | (simp [fr_S_quarrel]; done) | (unfold fr_S_quarrel; omega))]) (show 0 ≤ g 19 5 ∧ g 19 5 ≤ 16 from I.1 19 5).2), (fun q => zXwk_n (R8 (by omega)) (by rw [F2 64 5 (by first | (simp [fr_M_quarrel]; done) | (unfold fr_M_quarrel; omega)), F1 64 5 (by first | (simp [fr_S_quarrel]; done) | (unfold fr_S_quarrel; omega))]) (fun k => by rw [F2 75 k (by first | (simp [fr_M_quarrel]; done) | (unfold fr_M_quarrel; omega)), F1 75 k (by first | (simp [fr_S_quarrel]; done) | (unfold fr_S_quarrel; omega))]) (fun k => by rw [F2 76 k (by first | (simp [fr_M_quarrel]; done) | (unfold fr_M_quarrel; omega)), F1 76 k (by first | (simp [fr_S_quarrel]; done) | (unfold fr_S_quarrel; omega))]) (fun k => by rw [F2 250 k (by first | (simp [fr_M_quarrel]; done) | (unfold fr_M_quarrel; omega)), F1 250 k (by first | (simp [fr_S_quarrel]; done) | (unfold fr_S_quarrel; omega))])), (zXg_n R9 (by rw [F2 19 2 (by first | (simp [fr_M_quarrel]; done) | (unfold fr_M_quarrel; omega)), F1 19 2 (by first | (simp [fr_S_quarrel]; done) | (unfold fr_S_quarrel; omega))]) (by rw [F2 214 35 (by first | (simp [fr_M_quarrel]; done) | (unfold fr_M_quarrel; omega)), F1 214 35 (by first | (simp [fr_S_quarrel]; done) | (unfold fr_S_quarrel; omega))]) (fun k => by rw [F2 29 k (by first | (simp [fr_M_quarrel]; done) | (unfold fr_M_quarrel; omega)), F1 29 k (by first | (simp [fr_S_quarrel]; done) | (unfold fr_S_quarrel; omega))]) (fun k _ => by rw [F2 232 k (by first | (simp [fr_M_quarrel]; done) | (unfold fr_M_quarrel; omega)), F1 232 k (by first | (simp [fr_S_quarrel]; done) | (unfold fr_S_quarrel; omega))])), (fun q => zXgk_n (R10 (by omega)) (by rw [F2 64 2 (by first | (simp [fr_M_quarrel]; done) | (unfold fr_M_quarrel; omega)), F1 64 2 (by first | (simp [fr_S_quarrel]; done) | (unfold fr_S_quarrel; omega))]) (fun k => by rw [F2 74 k (by first | (simp [fr_M_quarrel]; done) | (unfold fr_M_quarrel; omega)), F1 74 k (by first | (simp [fr_S_quarrel]; done) | (unfold fr_S_quarrel; omega))]) (fun k => by rw [F2 250 k (by first | (simp [fr_M_quarrel]; done) | (unfold fr_M_quarrel; omega)), F1 250 k (by first | (simp [fr_S_quarrel]; done) | (unfold fr_S_quarrel; omega))])), (zBD_n R11 (fun a i h => (F2 a i (zbg_M_quarrelFt h)).trans (F1 a i (zbg_S_quarrelFt h))) (fun a i h => (F2 a i (zbg_M_quarrelFc h)).trans (F1 a i (zbg_S_quarrelFc h)))), (zRw_n (fun k => by rw [F2 5 k (by first | (simp [fr_M_quarrel]; done) | (unfold fr_M_quarrel; omega)), F1 5 k (by first | (simp [fr_S_quarrel]; done) | (unfold fr_S_quarrel; omega))]) (fun k => by rw [F2 220 k (by first | (simp [fr_M_quarrel]; done) | (unfold fr_M_quarrel; omega)), F1 220 k (by first | (simp [fr_S_quarrel]; done) | (unfold fr_S_quarrel; omega))]) R12), (fun q => zRw_nk (fun k => by rw [F2 50 k (by first | (simp [fr_M_quarrel]; done) | (unfold fr_M_quarrel; omega)), F1 50 k (by first | (simp [fr_S_quarrel]; done) | (unfold fr_S_quarrel; omega))]) (fun k => by rw [F2 250 k (by first | (simp [fr_M_quarrel]; done) | (unfold fr_M_quarrel; omega)), F1 250 k (by first | (simp [fr_S_quarrel]; done) | (unfold fr_S_quarrel; omega))]) (R13 (by omega))), (zRw_n (fun k => by rw [F2 3 k (by first | (simp [fr_M_quarrel]; done) | (unfold fr_M_quarrel; omega)), F1 3 k (by first | (simp [fr_S_quarrel]; done) | (unfold fr_S_quarrel; omega))]) (fun k => by rw [F2 218 k (by first | (simp [fr_M_quarrel]; done) | (unfold fr_M_quarrel; omega)), F1 218 k (by first | (simp [fr_S_quarrel]; done) | (unfold fr_S_quarrel; omega))]) R14), (fun q => zRw_nk (fun k => by rw [F2 48 k (by first | (simp [fr_M_quarrel]; done) | (unfold fr_M_quarrel; omega)), F1 48 k (by first | (simp [fr_S_quarrel]; done) | (unfold fr_S_quarrel; omega))]) (fun k => by rw [F2 250 k (by first | (simp [fr_M_quarrel]; done) | (unfold fr_M_quarrel; omega)), F1 250 k (by first | (simp [fr_S_quarrel]; done) | (unfold fr_S_quarrel; omega))]) (R15 (by omega))), (zRw_n (fun k => by rw [F2 4 k (by first | (simp [fr_M_quarrel]; done) | (unfold fr_M_quarrel; omega)), F1 4 k (by first | (simp [fr_S_quarrel]; done) | (unfold fr_S_quarrel; omega))]) (fun k => by rw [F2 219 k (by first | (simp [fr_M_quarrel]; done) | (unfold fr_M_quarrel; omega)), F1 219 k (by first | (simp [fr_S_quarrel]; done) | (unfold fr_S_quarrel; omega))]) R16), (fun q => zRw_nk (fun k => by rw [F2 49 k (by first | (simp [fr_M_quarrel]; done) | (unfold fr_M_quarrel; omega)), F1 49 k (by first | (simp [fr_S_quarrel]; done) | (unfold fr_S_quarrel; omega))]) (fun k => by rw [F2 250 k (by first | (simp [fr_M_quarrel]; done) | (unfold fr_M_quarrel; omega)), F1 250 k (by first | (simp [fr_S_quarrel]; done) | (unfold fr_S_quarrel; omega))]) (R17 (by omega))), (zLW_n R18 (show 0 ≤ g 224 0 ∧ g 224 0 ≤ 16 from I.1 224 0).2 (fun a i h => (F2 a i (zbg_M_quarrelFlw h)).trans (F1 a i (zbg_S_quarrelFlw h)))), (fun q => zLWk_n (R19 (by omega)) (fun a i h => (F2 a i (zbg_M_quarrelFlk h)).trans (F1 a i (zbg_S_quarrelFlk h)))), (zFD_n R20 (fun a i h => (F2 a i (zbg_M_quarrelFe h)).trans (F1 a i (zbg_S_quarrelFe h)))), Z2⟩
