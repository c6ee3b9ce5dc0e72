-- by program (wip/gen/mklaw.py)
theorem zpf_S_quarrel {a : Nat} {i : Int} (hc : zPc a i) : ¬ fr_S_quarrel a i := fun w => by
  unfold fr_S_quarrel at w
  unfold zPc at hc
  omega
theorem zpf_M_quarrel {a : Nat} {i : Int} (hc : zPc a i) : ¬ fr_M_quarrel a i := fun w => by
  have ha := zPc_le hc
  unfold fr_M_quarrel at w
  clear hc
  omega
theorem zbg_M_quarrelFt {a : Nat} {i : Int} (h : zFt a i) : ¬ fr_M_quarrel a i := fun w => by
  unfold fr_M_quarrel at w
  unfold zFt at h
  omega
theorem zbg_S_quarrelFt {a : Nat} {i : Int} (h : zFt a i) : ¬ fr_S_quarrel a i := fun w => by
  unfold fr_S_quarrel at w
  unfold zFt at h
  omega
theorem zbg_M_quarrelFc {a : Nat} {i : Int} (h : zFc a i) : ¬ fr_M_quarrel a i := fun w => by
  unfold fr_M_quarrel at w
  unfold zFc at h
  omega
theorem zbg_S_quarrelFc {a : Nat} {i : Int} (h : zFc a i) : ¬ fr_S_quarrel a i := fun w => by
  unfold fr_S_quarrel at w
  unfold zFc at h
  omega
set_option maxRecDepth 100000 in
set_option maxHeartbeats 4000000 in
theorem zw_c21 {E : sx_E} {i : Int} {g : zi_M} (hL : sx_Ln E ≤ 3072) (h0 : 0 ≤ i) (h6 : i + 6 ≤ ((sx_Ln E : Nat) : Int)) (R : zw_R g) (k : ∀ g' : zi_M, zw_R g' → zi_W E 420 326 1356 [some (.ref 1000000000), some (.ref 0), some (.ref 214), some (zi_i i)] [] g' zw_Q) : zi_W E 420 326 863 [some (.ref 1000000000), some (.ref 0), some (.ref 214), some (zi_i i)] [] g zw_Q := by
  obtain ⟨I, R0, R1, R2, R3, R4, R5, R6, R7, R8, R9, R10, R11, R12⟩ := R
  refine zi_aload_n (pc' := 864) rfl rfl rfl ?_
  refine zi_aload_n (pc' := 865) rfl rfl rfl ?_
  refine zi_iload_n (pc' := 866) rfl rfl rfl ?_
  refine zi_iconst (pc' := 867) rfl rfl ?_
  refine zi_iadd (pc' := 868) rfl rfl ?_
  refine zi_xald (pc' := 869) rfl rfl hL ⟨by omega, by omega⟩ ?_
  refine zi_aload_n (pc' := 870) rfl rfl rfl ?_
  refine zi_iload_n (pc' := 871) rfl rfl rfl ?_
  refine zi_iconst (pc' := 872) rfl rfl ?_
  refine zi_iadd (pc' := 873) rfl rfl ?_
  refine zi_xald (pc' := 874) rfl rfl hL ⟨by omega, by omega⟩ ?_
  refine zi_callV (d' := 1) (as := [_, _]) (pc' := 877) rfl rfl rfl rfl (by decide) (s_S_quarrel (Q := fun v g' => zk_I g' ∧ zk_fr fr_S_quarrel g g') (Nat.le_refl _) (k_S_quarrel I (zw_r _ _) (zw_r _ _) (fun v g' I' F' h0 h1 h2 h3 => ⟨I', F'⟩))) (zi_ki (fun v1 g1 h1 => ?_))
  obtain ⟨I1, F1⟩ := h1
  have c1_0_2 : g1 0 2 = g 0 2 := F1 0 2 (by first | (simp [fr_S_quarrel]; done) | (unfold fr_S_quarrel; omega))
  have c1_0_8 : g1 0 8 = g 0 8 := F1 0 8 (by first | (simp [fr_S_quarrel]; done) | (unfold fr_S_quarrel; omega))
  have c1_2_8 : g1 2 8 = g 2 8 := F1 2 8 (by first | (simp [fr_S_quarrel]; done) | (unfold fr_S_quarrel; omega))
  have c1_2_11 : g1 2 11 = g 2 11 := F1 2 11 (by first | (simp [fr_S_quarrel]; done) | (unfold fr_S_quarrel; omega))
  have c1_47_8 : g1 47 8 = g 47 8 := F1 47 8 (by first | (simp [fr_S_quarrel]; done) | (unfold fr_S_quarrel; omega))
  have c1_47_11 : g1 47 11 = g 47 11 := F1 47 11 (by first | (simp [fr_S_quarrel]; done) | (unfold fr_S_quarrel; omega))
  have c1_214_6 : g1 214 6 = g 214 6 := F1 214 6 (by first | (simp [fr_S_quarrel]; done) | (unfold fr_S_quarrel; omega))
  have c1_214_7 : g1 214 7 = g 214 7 := F1 214 7 (by first | (simp [fr_S_quarrel]; done) | (unfold fr_S_quarrel; omega))
  have c1_214_13 : g1 214 13 = g 214 13 := F1 214 13 (by first | (simp [fr_S_quarrel]; done) | (unfold fr_S_quarrel; omega))
  have c1_214_62 : g1 214 62 = g 214 62 := F1 214 62 (by first | (simp [fr_S_quarrel]; done) | (unfold fr_S_quarrel; omega))
  have c1_250_264 : g1 250 264 = g 250 264 := F1 250 264 (by first | (simp [fr_S_quarrel]; done) | (unfold fr_S_quarrel; omega))
  have c1_250_265 : g1 250 265 = g 250 265 := F1 250 265 (by first | (simp [fr_S_quarrel]; done) | (unfold fr_S_quarrel; omega))
  have Z1 : zP g1 := zP_eq (fun a i hc => F1 a i (zpf_S_quarrel hc)) R12
  refine zi_pop (pc' := 878) rfl rfl rfl ?_
  refine zi_aload_n (pc' := 879) rfl rfl rfl ?_
  refine zi_aload_n (pc' := 880) rfl rfl rfl ?_
  refine zi_iload_n (pc' := 881) rfl rfl rfl ?_
  refine zi_iconst (pc' := 882) rfl rfl ?_
  refine zi_iadd (pc' := 883) rfl rfl ?_
  refine zi_xald (pc' := 884) rfl rfl hL ⟨by omega, by omega⟩ ?_
  refine zi_aload_n (pc' := 885) rfl rfl rfl ?_
  refine zi_iload_n (pc' := 886) rfl rfl rfl ?_
  refine zi_iconst (pc' := 887) rfl rfl ?_
  refine zi_iadd (pc' := 888) rfl rfl ?_
  refine zi_xald (pc' := 889) rfl rfl hL ⟨by omega, by omega⟩ ?_
  refine zi_callV (d' := 2) (as := [_, _]) (pc' := 892) rfl rfl rfl rfl (by decide) (s_M_quarrel (Q := fun v g' => zk_I g' ∧ zk_fr fr_M_quarrel g1 g') (Nat.le_refl _) (k_M_quarrel I1 (zw_r _ _) (zw_r _ _) (fun v g' I' F' h0 h1 h2 h3 => ⟨I', F'⟩))) (zi_ki (fun v2 g2 h2 => ?_))
  obtain ⟨I2, F2⟩ := h2
  have c2_0_2 : g2 0 2 = g1 0 2 := F2 0 2 (by first | (simp [fr_M_quarrel]; done) | (unfold fr_M_quarrel; omega))
  have c2_0_8 : g2 0 8 = g1 0 8 := F2 0 8 (by first | (simp [fr_M_quarrel]; done) | (unfold fr_M_quarrel; omega))
  have c2_2_8 : g2 2 8 = g1 2 8 := F2 2 8 (by first | (simp [fr_M_quarrel]; done) | (unfold fr_M_quarrel; omega))
  have c2_2_11 : g2 2 11 = g1 2 11 := F2 2 11 (by first | (simp [fr_M_quarrel]; done) | (unfold fr_M_quarrel; omega))
  have c2_47_8 : g2 47 8 = g1 47 8 := F2 47 8 (by first | (simp [fr_M_quarrel]; done) | (unfold fr_M_quarrel; omega))
  have c2_47_11 : g2 47 11 = g1 47 11 := F2 47 11 (by first | (simp [fr_M_quarrel]; done) | (unfold fr_M_quarrel; omega))
  have c2_214_6 : g2 214 6 = g1 214 6 := F2 214 6 (by first | (simp [fr_M_quarrel]; done) | (unfold fr_M_quarrel; omega))
  have c2_214_7 : g2 214 7 = g1 214 7 := F2 214 7 (by first | (simp [fr_M_quarrel]; done) | (unfold fr_M_quarrel; omega))
  have c2_214_13 : g2 214 13 = g1 214 13 := F2 214 13 (by first | (simp [fr_M_quarrel]; done) | (unfold fr_M_quarrel; omega))
  have c2_214_62 : g2 214 62 = g1 214 62 := F2 214 62 (by first | (simp [fr_M_quarrel]; done) | (unfold fr_M_quarrel; omega))
  have c2_250_264 : g2 250 264 = g1 250 264 := F2 250 264 (by first | (simp [fr_M_quarrel]; done) | (unfold fr_M_quarrel; omega))
  have c2_250_265 : g2 250 265 = g1 250 265 := F2 250 265 (by first | (simp [fr_M_quarrel]; done) | (unfold fr_M_quarrel; omega))
  have Z2 : zP g2 := zP_eq (fun a i hc => F2 a i (zpf_M_quarrel hc)) Z1
  refine zi_pop (pc' := 893) rfl rfl rfl ?_
  refine zi_goto (x := 1356) rfl ?_
  exact k _ ⟨I2, (by rw [c2_0_2, c1_0_2, c2_214_62, c1_214_62]; exact R0), (by rw [c2_0_8, c1_0_8, c2_214_13, c1_214_13]; exact R1), (funext fun k => by rw [F2 190 k (by first | (simp [fr_M_quarrel]; done) | (unfold fr_M_quarrel; omega)), F1 190 k (by first | (simp [fr_S_quarrel]; done) | (unfold fr_S_quarrel; omega)), F2 222 k (by first | (simp [fr_M_quarrel]; done) | (unfold fr_M_quarrel; omega)), F1 222 k (by first | (simp [fr_S_quarrel]; done) | (unfold fr_S_quarrel; omega))]; exact congrFun R2 k), (by rw [c2_2_8, c1_2_8, c2_214_6, c1_214_6]; exact R3), (fun q => by rw [c2_47_8, c1_47_8, c2_250_264, c1_250_264]; exact R4 (by rw [c2_0_2, c1_0_2] at q; exact q)), (by rw [c2_2_11, c1_2_11, c2_214_7, c1_214_7]; exact R5), (fun q => by rw [c2_47_11, c1_47_11, c2_250_265, c1_250_265]; exact R6 (by rw [c2_0_2, c1_0_2] at q; exact q)), (zXw_n R7 (by rw [F2 19 5 (by first | (simp [fr_M_quarrel]; done) | (unfold fr_M_quarrel; omega)), F1 19 5 (by first | (simp [fr_S_quarrel]; done) | (unfold fr_S_quarrel; omega))]) (by rw [F2 214 37 (by first | (simp [fr_M_quarrel]; done) | (unfold fr_M_quarrel; omega)), F1 214 37 (by first | (simp [fr_S_quarrel]; done) | (unfold fr_S_quarrel; omega))]) (fun k => by rw [F2 30 k (by first | (simp [fr_M_quarrel]; done) | (unfold fr_M_quarrel; omega)), F1 30 k (by first | (simp [fr_S_quarrel]; done) | (unfold fr_S_quarrel; omega))]) (fun k => by rw [F2 31 k (by first | (simp [fr_M_quarrel]; done) | (unfold fr_M_quarrel; omega)), F1 31 k (by first | (simp [fr_S_quarrel]; done) | (unfold fr_S_quarrel; omega))]) (fun k _ => by rw [F2 233 k (by first | (simp [fr_M_quarrel]; done) | (unfold fr_M_quarrel; omega)), F1 233 k (by first | (simp [fr_S_quarrel]; done) | (unfold fr_S_quarrel; omega))]) (show 0 ≤ g 19 5 ∧ g 19 5 ≤ 16 from I.1 19 5).2), (fun q => zXwk_n (R8 (by omega)) (by rw [F2 64 5 (by first | (simp [fr_M_quarrel]; done) | (unfold fr_M_quarrel; omega)), F1 64 5 (by first | (simp [fr_S_quarrel]; done) | (unfold fr_S_quarrel; omega))]) (fun k => by rw [F2 75 k (by first | (simp [fr_M_quarrel]; done) | (unfold fr_M_quarrel; omega)), F1 75 k (by first | (simp [fr_S_quarrel]; done) | (unfold fr_S_quarrel; omega))]) (fun k => by rw [F2 76 k (by first | (simp [fr_M_quarrel]; done) | (unfold fr_M_quarrel; omega)), F1 76 k (by first | (simp [fr_S_quarrel]; done) | (unfold fr_S_quarrel; omega))]) (fun k => by rw [F2 250 k (by first | (simp [fr_M_quarrel]; done) | (unfold fr_M_quarrel; omega)), F1 250 k (by first | (simp [fr_S_quarrel]; done) | (unfold fr_S_quarrel; omega))])), (zXg_n R9 (by rw [F2 19 2 (by first | (simp [fr_M_quarrel]; done) | (unfold fr_M_quarrel; omega)), F1 19 2 (by first | (simp [fr_S_quarrel]; done) | (unfold fr_S_quarrel; omega))]) (by rw [F2 214 35 (by first | (simp [fr_M_quarrel]; done) | (unfold fr_M_quarrel; omega)), F1 214 35 (by first | (simp [fr_S_quarrel]; done) | (unfold fr_S_quarrel; omega))]) (fun k => by rw [F2 29 k (by first | (simp [fr_M_quarrel]; done) | (unfold fr_M_quarrel; omega)), F1 29 k (by first | (simp [fr_S_quarrel]; done) | (unfold fr_S_quarrel; omega))]) (fun k _ => by rw [F2 232 k (by first | (simp [fr_M_quarrel]; done) | (unfold fr_M_quarrel; omega)), F1 232 k (by first | (simp [fr_S_quarrel]; done) | (unfold fr_S_quarrel; omega))])), (fun q => zXgk_n (R10 (by omega)) (by rw [F2 64 2 (by first | (simp [fr_M_quarrel]; done) | (unfold fr_M_quarrel; omega)), F1 64 2 (by first | (simp [fr_S_quarrel]; done) | (unfold fr_S_quarrel; omega))]) (fun k => by rw [F2 74 k (by first | (simp [fr_M_quarrel]; done) | (unfold fr_M_quarrel; omega)), F1 74 k (by first | (simp [fr_S_quarrel]; done) | (unfold fr_S_quarrel; omega))]) (fun k => by rw [F2 250 k (by first | (simp [fr_M_quarrel]; done) | (unfold fr_M_quarrel; omega)), F1 250 k (by first | (simp [fr_S_quarrel]; done) | (unfold fr_S_quarrel; omega))])), (zBD_n R11 (fun a i h => (F2 a i (zbg_M_quarrelFt h)).trans (F1 a i (zbg_S_quarrelFt h))) (fun a i h => (F2 a i (zbg_M_quarrelFc h)).trans (F1 a i (zbg_S_quarrelFc h)))), Z2⟩
theorem zpf_S_parts {a : Nat} {i : Int} (hc : zPc a i) : ¬ fr_S_parts a i := fun w => by
  unfold fr_S_parts at w
  unfold zPc at hc
  omega
theorem zpf_M_parts {a : Nat} {i : Int} (hc : zPc a i) : ¬ fr_M_parts a i := fun w => by
  have ha := zPc_le hc
  unfold fr_M_parts at w
  clear hc
  omega
theorem zbg_M_partsFt {a : Nat} {i : Int} (h : zFt a i) : ¬ fr_M_parts a i := fun w => by
  unfold fr_M_parts at w
  unfold zFt at h
  omega
theorem zbg_S_partsFt {a : Nat} {i : Int} (h : zFt a i) : ¬ fr_S_parts a i := fun w => by
  unfold fr_S_parts at w
  unfold zFt at h
  omega
theorem zbg_M_partsFc {a : Nat} {i : Int} (h : zFc a i) : ¬ fr_M_parts a i := fun w => by
  unfold fr_M_parts at w
  unfold zFc at h
  omega
theorem zbg_S_partsFc {a : Nat} {i : Int} (h : zFc a i) : ¬ fr_S_parts a i := fun w => by
  unfold fr_S_parts at w
  unfold zFc at h
  omega
set_option maxRecDepth 100000 in
set_option maxHeartbeats 4000000 in
theorem zw_c22 {E : sx_E} {i : Int} {g : zi_M} (hL : sx_Ln E ≤ 3072) (h0 : 0 ≤ i) (h6 : i + 6 ≤ ((sx_Ln E : Nat) : Int)) (R : zw_R g) (k : ∀ g' : zi_M, zw_R g' → zi_W E 420 326 1356 [some (.ref 1000000000), some (.ref 0), some (.ref 214), some (zi_i i)] [] g' zw_Q) : zi_W E 420 326 896 [some (.ref 1000000000), some (.ref 0), some (.ref 214), some (zi_i i)] [] g zw_Q := by
  obtain ⟨I, R0, R1, R2, R3, R4, R5, R6, R7, R8, R9, R10, R11, R12⟩ := R
  refine zi_aload_n (pc' := 897) rfl rfl rfl ?_
  refine zi_aload_n (pc' := 898) rfl rfl rfl ?_
  refine zi_iload_n (pc' := 899) rfl rfl rfl ?_
  refine zi_iconst (pc' := 900) rfl rfl ?_
  refine zi_iadd (pc' := 901) rfl rfl ?_
  refine zi_xald (pc' := 902) rfl rfl hL ⟨by omega, by omega⟩ ?_
  refine zi_callV (d' := 4) (as := [_]) (pc' := 905) rfl rfl rfl rfl (by decide) (s_S_parts (Q := fun v g' => zk_I g' ∧ zk_fr fr_S_parts g g') (Nat.le_refl _) (k_S_parts I (zw_r _ _) (fun v g' I' F' h0 => ⟨I', F'⟩))) (zi_ki (fun v1 g1 h1 => ?_))
  obtain ⟨I1, F1⟩ := h1
  have c1_0_2 : g1 0 2 = g 0 2 := F1 0 2 (by first | (simp [fr_S_parts]; done) | (unfold fr_S_parts; omega))
  have c1_0_8 : g1 0 8 = g 0 8 := F1 0 8 (by first | (simp [fr_S_parts]; done) | (unfold fr_S_parts; omega))
  have c1_2_8 : g1 2 8 = g 2 8 := F1 2 8 (by first | (simp [fr_S_parts]; done) | (unfold fr_S_parts; omega))
  have c1_2_11 : g1 2 11 = g 2 11 := F1 2 11 (by first | (simp [fr_S_parts]; done) | (unfold fr_S_parts; omega))
  have c1_47_8 : g1 47 8 = g 47 8 := F1 47 8 (by first | (simp [fr_S_parts]; done) | (unfold fr_S_parts; omega))
  have c1_47_11 : g1 47 11 = g 47 11 := F1 47 11 (by first | (simp [fr_S_parts]; done) | (unfold fr_S_parts; omega))
  have c1_214_6 : g1 214 6 = g 214 6 := F1 214 6 (by first | (simp [fr_S_parts]; done) | (unfold fr_S_parts; omega))
  have c1_214_7 : g1 214 7 = g 214 7 := F1 214 7 (by first | (simp [fr_S_parts]; done) | (unfold fr_S_parts; omega))
  have c1_214_13 : g1 214 13 = g 214 13 := F1 214 13 (by first | (simp [fr_S_parts]; done) | (unfold fr_S_parts; omega))
  have c1_214_62 : g1 214 62 = g 214 62 := F1 214 62 (by first | (simp [fr_S_parts]; done) | (unfold fr_S_parts; omega))
  have c1_250_264 : g1 250 264 = g 250 264 := F1 250 264 (by first | (simp [fr_S_parts]; done) | (unfold fr_S_parts; omega))
  have c1_250_265 : g1 250 265 = g 250 265 := F1 250 265 (by first | (simp [fr_S_parts]; done) | (unfold fr_S_parts; omega))
  have Z1 : zP g1 := zP_eq (fun a i hc => F1 a i (zpf_S_parts hc)) R12
  refine zi_pop (pc' := 906) rfl rfl rfl ?_
  refine zi_aload_n (pc' := 907) rfl rfl rfl ?_
  refine zi_aload_n (pc' := 908) rfl rfl rfl ?_
  refine zi_iload_n (pc' := 909) rfl rfl rfl ?_
  refine zi_iconst (pc' := 910) rfl rfl ?_
  refine zi_iadd (pc' := 911) rfl rfl ?_
  refine zi_xald (pc' := 912) rfl rfl hL ⟨by omega, by omega⟩ ?_
  refine zi_callV (d' := 4) (as := [_]) (pc' := 915) rfl rfl rfl rfl (by decide) (s_M_parts (Q := fun v g' => zk_I g' ∧ zk_fr fr_M_parts g1 g') (Nat.le_refl _) (k_M_parts I1 (zw_r _ _) (fun v g' I' F' h0 => ⟨I', F'⟩))) (zi_ki (fun v2 g2 h2 => ?_))
  obtain ⟨I2, F2⟩ := h2
  have c2_0_2 : g2 0 2 = g1 0 2 := F2 0 2 (by first | (simp [fr_M_parts]; done) | (unfold fr_M_parts; omega))
  have c2_0_8 : g2 0 8 = g1 0 8 := F2 0 8 (by first | (simp [fr_M_parts]; done) | (unfold fr_M_parts; omega))
  have c2_2_8 : g2 2 8 = g1 2 8 := F2 2 8 (by first | (simp [fr_M_parts]; done) | (unfold fr_M_parts; omega))
  have c2_2_11 : g2 2 11 = g1 2 11 := F2 2 11 (by first | (simp [fr_M_parts]; done) | (unfold fr_M_parts; omega))
  have c2_47_8 : g2 47 8 = g1 47 8 := F2 47 8 (by first | (simp [fr_M_parts]; done) | (unfold fr_M_parts; omega))
  have c2_47_11 : g2 47 11 = g1 47 11 := F2 47 11 (by first | (simp [fr_M_parts]; done) | (unfold fr_M_parts; omega))
  have c2_214_6 : g2 214 6 = g1 214 6 := F2 214 6 (by first | (simp [fr_M_parts]; done) | (unfold fr_M_parts; omega))
  have c2_214_7 : g2 214 7 = g1 214 7 := F2 214 7 (by first | (simp [fr_M_parts]; done) | (unfold fr_M_parts; omega))
  have c2_214_13 : g2 214 13 = g1 214 13 := F2 214 13 (by first | (simp [fr_M_parts]; done) | (unfold fr_M_parts; omega))
  have c2_214_62 : g2 214 62 = g1 214 62 := F2 214 62 (by first | (simp [fr_M_parts]; done) | (unfold fr_M_parts; omega))
  have c2_250_264 : g2 250 264 = g1 250 264 := F2 250 264 (by first | (simp [fr_M_parts]; done) | (unfold fr_M_parts; omega))
  have c2_250_265 : g2 250 265 = g1 250 265 := F2 250 265 (by first | (simp [fr_M_parts]; done) | (unfold fr_M_parts; omega))
  have Z2 : zP g2 := zP_eq (fun a i hc => F2 a i (zpf_M_parts hc)) Z1
  refine zi_pop (pc' := 916) rfl rfl rfl ?_
  refine zi_goto (x := 1356) rfl ?_
  exact k _ ⟨I2, (by rw [c2_0_2, c1_0_2, c2_214_62, c1_214_62]; exact R0), (by rw [c2_0_8, c1_0_8, c2_214_13, c1_214_13]; exact R1), (funext fun k => by rw [F2 190 k (by first | (simp [fr_M_parts]; done) | (unfold fr_M_parts; omega)), F1 190 k (by first | (simp [fr_S_parts]; done) | (unfold fr_S_parts; omega)), F2 222 k (by first | (simp [fr_M_parts]; done) | (unfold fr_M_parts; omega)), F1 222 k (by first | (simp [fr_S_parts]; done) | (unfold fr_S_parts; omega))]; exact congrFun R2 k), (by rw [c2_2_8, c1_2_8, c2_214_6, c1_214_6]; exact R3), (fun q => by rw [c2_47_8, c1_47_8, c2_250_264, c1_250_264]; exact R4 (by rw [c2_0_2, c1_0_2] at q; exact q)), (by rw [c2_2_11, c1_2_11, c2_214_7, c1_214_7]; exact R5), (fun q => by rw [c2_47_11, c1_47_11, c2_250_265, c1_250_265]; exact R6 (by rw [c2_0_2, c1_0_2] at q; exact q)), (zXw_n R7 (by rw [F2 19 5 (by first | (simp [fr_M_parts]; done) | (unfold fr_M_parts; omega)), F1 19 5 (by first | (simp [fr_S_parts]; done) | (unfold fr_S_parts; omega))]) (by rw [F2 214 37 (by first | (simp [fr_M_parts]; done) | (unfold fr_M_parts; omega)), F1 214 37 (by first | (simp [fr_S_parts]; done) | (unfold fr_S_parts; omega))]) (fun k => by rw [F2 30 k (by first | (simp [fr_M_parts]; done) | (unfold fr_M_parts; omega)), F1 30 k (by first | (simp [fr_S_parts]; done) | (unfold fr_S_parts; omega))]) (fun k => by rw [F2 31 k (by first | (simp [fr_M_parts]; done) | (unfold fr_M_parts; omega)), F1 31 k (by first | (simp [fr_S_parts]; done) | (unfold fr_S_parts; omega))]) (fun k _ => by rw [F2 233 k (by first | (simp [fr_M_parts]; done) | (unfold fr_M_parts; omega)), F1 233 k (by first | (simp [fr_S_parts]; done) | (unfold fr_S_parts; omega))]) (show 0 ≤ g 19 5 ∧ g 19 5 ≤ 16 from I.1 19 5).2), (fun q => zXwk_n (R8 (by omega)) (by rw [F2 64 5 (by first | (simp [fr_M_parts]; done) | (unfold fr_M_parts; omega)), F1 64 5 (by first | (simp [fr_S_parts]; done) | (unfold fr_S_parts; omega))]) (fun k => by rw [F2 75 k (by first | (simp [fr_M_parts]; done) | (unfold fr_M_parts; omega)), F1 75 k (by first | (simp [fr_S_parts]; done) | (unfold fr_S_parts; omega))]) (fun k => by rw [F2 76 k (by first | (simp [fr_M_parts]; done) | (unfold fr_M_parts; omega)), F1 76 k (by first | (simp [fr_S_parts]; done) | (unfold fr_S_parts; omega))]) (fun k => by rw [F2 250 k (by first | (simp [fr_M_parts]; done) | (unfold fr_M_parts; omega)), F1 250 k (by first | (simp [fr_S_parts]; done) | (unfold fr_S_parts; omega))])), (zXg_n R9 (by rw [F2 19 2 (by first | (simp [fr_M_parts]; done) | (unfold fr_M_parts; omega)), F1 19 2 (by first | (simp [fr_S_parts]; done) | (unfold fr_S_parts; omega))]) (by rw [F2 214 35 (by first | (simp [fr_M_parts]; done) | (unfold fr_M_parts; omega)), F1 214 35 (by first | (simp [fr_S_parts]; done) | (unfold fr_S_parts; omega))]) (fun k => by rw [F2 29 k (by first | (simp [fr_M_parts]; done) | (unfold fr_M_parts; omega)), F1 29 k (by first | (simp [fr_S_parts]; done) | (unfold fr_S_parts; omega))]) (fun k _ => by rw [F2 232 k (by first | (simp [fr_M_parts]; done) | (unfold fr_M_parts; omega)), F1 232 k (by first | (simp [fr_S_parts]; done) | (unfold fr_S_parts; omega))])), (fun q => zXgk_n (R10 (by omega)) (by rw [F2 64 2 (by first | (simp [fr_M_parts]; done) | (unfold fr_M_parts; omega)), F1 64 2 (by first | (simp [fr_S_parts]; done) | (unfold fr_S_parts; omega))]) (fun k => by rw [F2 74 k (by first | (simp [fr_M_parts]; done) | (unfold fr_M_parts; omega)), F1 74 k (by first | (simp [fr_S_parts]; done) | (unfold fr_S_parts; omega))]) (fun k => by rw [F2 250 k (by first | (simp [fr_M_parts]; done) | (unfold fr_M_parts; omega)), F1 250 k (by first | (simp [fr_S_parts]; done) | (unfold fr_S_parts; omega))])), (zBD_n R11 (fun a i h => (F2 a i (zbg_M_partsFt h)).trans (F1 a i (zbg_S_partsFt h))) (fun a i h => (F2 a i (zbg_M_partsFc h)).trans (F1 a i (zbg_S_partsFc h)))), Z2⟩
theorem zpf_S_known {a : Nat} {i : Int} (hc : zPc a i) : ¬ fr_S_known a i := fun w => by
  unfold fr_S_known at w
  unfold zPc at hc
  omega
theorem zpf_M_known {a : Nat} {i : Int} (hc : zPc a i) : ¬ fr_M_known a i := fun w => by
  have ha := zPc_le hc
  unfold fr_M_known at w
  clear hc
  omega
theorem zbg_M_knownFt {a : Nat} {i : Int} (h : zFt a i) : ¬ fr_M_known a i := fun w => by
  unfold fr_M_known at w
  unfold zFt at h
  omega
theorem zbg_S_knownFt {a : Nat} {i : Int} (h : zFt a i) : ¬ fr_S_known a i := fun w => by
  unfold fr_S_known at w
  unfold zFt at h
  omega
theorem zbg_M_knownFc {a : Nat} {i : Int} (h : zFc a i) : ¬ fr_M_known a i := fun w => by
  unfold fr_M_known at w
  unfold zFc at h
  omega
theorem zbg_S_knownFc {a : Nat} {i : Int} (h : zFc a i) : ¬ fr_S_known a i := fun w => by
  unfold fr_S_known at w
  unfold zFc at h
  omega
set_option maxRecDepth 100000 in
set_option maxHeartbeats 4000000 in
theorem zw_c23 {E : sx_E} {i : Int} {g : zi_M} (hL : sx_Ln E ≤ 3072) (h0 : 0 ≤ i) (h6 : i + 6 ≤ ((sx_Ln E : Nat) : Int)) (R : zw_R g) (k : ∀ g' : zi_M, zw_R g' → zi_W E 420 326 1356 [some (.ref 1000000000), some (.ref 0), some (.ref 214), some (zi_i i)] [] g' zw_Q) : zi_W E 420 326 919 [some (.ref 1000000000), some (.ref 0), some (.ref 214), some (zi_i i)] [] g zw_Q := by
  obtain ⟨I, R0, R1, R2, R3, R4, R5, R6, R7, R8, R9, R10, R11, R12⟩ := R
  refine zi_aload_n (pc' := 920) rfl rfl rfl ?_
  refine zi_aload_n (pc' := 921) rfl rfl rfl ?_
  refine zi_iload_n (pc' := 922) rfl rfl rfl ?_
  refine zi_iconst (pc' := 923) rfl rfl ?_
  refine zi_iadd (pc' := 924) rfl rfl ?_
  refine zi_xald (pc' := 925) rfl rfl hL ⟨by omega, by omega⟩ ?_
  refine zi_aload_n (pc' := 926) rfl rfl rfl ?_
  refine zi_iload_n (pc' := 927) rfl rfl rfl ?_
  refine zi_iconst (pc' := 928) rfl rfl ?_
  refine zi_iadd (pc' := 929) rfl rfl ?_
  refine zi_xald (pc' := 930) rfl rfl hL ⟨by omega, by omega⟩ ?_
  refine zi_callV (d' := 5) (as := [_, _]) (pc' := 933) rfl rfl rfl rfl (by decide) (s_S_known (Q := fun v g' => zk_I g' ∧ zk_fr fr_S_known g g') (Nat.le_refl _) (k_S_known I (zw_r _ _) (zw_r _ _) (fun v g' I' F' h0 => ⟨I', F'⟩))) (zi_ki (fun v1 g1 h1 => ?_))
  obtain ⟨I1, F1⟩ := h1
  have c1_0_2 : g1 0 2 = g 0 2 := F1 0 2 (by first | (simp [fr_S_known]; done) | (unfold fr_S_known; omega))
  have c1_0_8 : g1 0 8 = g 0 8 := F1 0 8 (by first | (simp [fr_S_known]; done) | (unfold fr_S_known; omega))
  have c1_2_8 : g1 2 8 = g 2 8 := F1 2 8 (by first | (simp [fr_S_known]; done) | (unfold fr_S_known; omega))
  have c1_2_11 : g1 2 11 = g 2 11 := F1 2 11 (by first | (simp [fr_S_known]; done) | (unfold fr_S_known; omega))
  have c1_47_8 : g1 47 8 = g 47 8 := F1 47 8 (by first | (simp [fr_S_known]; done) | (unfold fr_S_known; omega))
  have c1_47_11 : g1 47 11 = g 47 11 := F1 47 11 (by first | (simp [fr_S_known]; done) | (unfold fr_S_known; omega))
  have c1_214_6 : g1 214 6 = g 214 6 := F1 214 6 (by first | (simp [fr_S_known]; done) | (unfold fr_S_known; omega))
  have c1_214_7 : g1 214 7 = g 214 7 := F1 214 7 (by first | (simp [fr_S_known]; done) | (unfold fr_S_known; omega))
  have c1_214_13 : g1 214 13 = g 214 13 := F1 214 13 (by first | (simp [fr_S_known]; done) | (unfold fr_S_known; omega))
  have c1_214_62 : g1 214 62 = g 214 62 := F1 214 62 (by first | (simp [fr_S_known]; done) | (unfold fr_S_known; omega))
  have c1_250_264 : g1 250 264 = g 250 264 := F1 250 264 (by first | (simp [fr_S_known]; done) | (unfold fr_S_known; omega))
  have c1_250_265 : g1 250 265 = g 250 265 := F1 250 265 (by first | (simp [fr_S_known]; done) | (unfold fr_S_known; omega))
  have Z1 : zP g1 := zP_eq (fun a i hc => F1 a i (zpf_S_known hc)) R12
  refine zi_pop (pc' := 934) rfl rfl rfl ?_
  refine zi_aload_n (pc' := 935) rfl rfl rfl ?_
  refine zi_aload_n (pc' := 936) rfl rfl rfl ?_
  refine zi_iload_n (pc' := 937) rfl rfl rfl ?_
  refine zi_iconst (pc' := 938) rfl rfl ?_
  refine zi_iadd (pc' := 939) rfl rfl ?_
  refine zi_xald (pc' := 940) rfl rfl hL ⟨by omega, by omega⟩ ?_
  refine zi_aload_n (pc' := 941) rfl rfl rfl ?_
  refine zi_iload_n (pc' := 942) rfl rfl rfl ?_
  refine zi_iconst (pc' := 943) rfl rfl ?_
  refine zi_iadd (pc' := 944) rfl rfl ?_
  refine zi_xald (pc' := 945) rfl rfl hL ⟨by omega, by omega⟩ ?_
  refine zi_callV (d' := 3) (as := [_, _]) (pc' := 948) rfl rfl rfl rfl (by decide) (s_M_known (Q := fun v g' => zk_I g' ∧ zk_fr fr_M_known g1 g') (Nat.le_refl _) (k_M_known I1 (zw_r _ _) (zw_r _ _) (fun v g' I' F' h0 => ⟨I', F'⟩))) (zi_ki (fun v2 g2 h2 => ?_))
  obtain ⟨I2, F2⟩ := h2
  have c2_0_2 : g2 0 2 = g1 0 2 := F2 0 2 (by first | (simp [fr_M_known]; done) | (unfold fr_M_known; omega))
  have c2_0_8 : g2 0 8 = g1 0 8 := F2 0 8 (by first | (simp [fr_M_known]; done) | (unfold fr_M_known; omega))
  have c2_2_8 : g2 2 8 = g1 2 8 := F2 2 8 (by first | (simp [fr_M_known]; done) | (unfold fr_M_known; omega))
  have c2_2_11 : g2 2 11 = g1 2 11 := F2 2 11 (by first | (simp [fr_M_known]; done) | (unfold fr_M_known; omega))
  have c2_47_8 : g2 47 8 = g1 47 8 := F2 47 8 (by first | (simp [fr_M_known]; done) | (unfold fr_M_known; omega))
  have c2_47_11 : g2 47 11 = g1 47 11 := F2 47 11 (by first | (simp [fr_M_known]; done) | (unfold fr_M_known; omega))
  have c2_214_6 : g2 214 6 = g1 214 6 := F2 214 6 (by first | (simp [fr_M_known]; done) | (unfold fr_M_known; omega))
  have c2_214_7 : g2 214 7 = g1 214 7 := F2 214 7 (by first | (simp [fr_M_known]; done) | (unfold fr_M_known; omega))
  have c2_214_13 : g2 214 13 = g1 214 13 := F2 214 13 (by first | (simp [fr_M_known]; done) | (unfold fr_M_known; omega))
  have c2_214_62 : g2 214 62 = g1 214 62 := F2 214 62 (by first | (simp [fr_M_known]; done) | (unfold fr_M_known; omega))
  have c2_250_264 : g2 250 264 = g1 250 264 := F2 250 264 (by first | (simp [fr_M_known]; done) | (unfold fr_M_known; omega))
  have c2_250_265 : g2 250 265 = g1 250 265 := F2 250 265 (by first | (simp [fr_M_known]; done) | (unfold fr_M_known; omega))
  have Z2 : zP g2 := zP_eq (fun a i hc => F2 a i (zpf_M_known hc)) Z1
  refine zi_pop (pc' := 949) rfl rfl rfl ?_
  refine zi_goto (x := 1356) rfl ?_
  exact k _ ⟨I2, (by rw [c2_0_2, c1_0_2, c2_214_62, c1_214_62]; exact R0), (by rw [c2_0_8, c1_0_8, c2_214_13, c1_214_13]; exact R1), (funext fun k => by rw [F2 190 k (by first | (simp [fr_M_known]; done) | (unfold fr_M_known; omega)), F1 190 k (by first | (simp [fr_S_known]; done) | (unfold fr_S_known; omega)), F2 222 k (by first | (simp [fr_M_known]; done) | (unfold fr_M_known; omega)), F1 222 k (by first | (simp [fr_S_known]; done) | (unfold fr_S_known; omega))]; exact congrFun R2 k), (by rw [c2_2_8, c1_2_8, c2_214_6, c1_214_6]; exact R3), (fun q => by rw [c2_47_8, c1_47_8, c2_250_264, c1_250_264]; exact R4 (by rw [c2_0_2, c1_0_2] at q; exact q)), (by rw [c2_2_11, c1_2_11, c2_214_7, c1_214_7]; exact R5), (fun q => by rw [c2_47_11, c1_47_11, c2_250_265, c1_250_265]; exact R6 (by rw [c2_0_2, c1_0_2] at q; exact q)), (zXw_n R7 (by rw [F2 19 5 (by first | (simp [fr_M_known]; done) | (unfold fr_M_known; omega)), F1 19 5 (by first | (simp [fr_S_known]; done) | (unfold fr_S_known; omega))]) (by rw [F2 214 37 (by first | (simp [fr_M_known]; done) | (unfold fr_M_known; omega)), F1 214 37 (by first | (simp [fr_S_known]; done) | (unfold fr_S_known; omega))]) (fun k => by rw [F2 30 k (by first | (simp [fr_M_known]; done) | (unfold fr_M_known; omega)), F1 30 k (by first | (simp [fr_S_known]; done) | (unfold fr_S_known; omega))]) (fun k => by rw [F2 31 k (by first | (simp [fr_M_known]; done) | (unfold fr_M_known; omega)), F1 31 k (by first | (simp [fr_S_known]; done) | (unfold fr_S_known; omega))]) (fun k _ => by rw [F2 233 k (by first | (simp [fr_M_known]; done) | (unfold fr_M_known; omega)), F1 233 k (by first | (simp [fr_S_known]; done) | (unfold fr_S_known; omega))]) (show 0 ≤ g 19 5 ∧ g 19 5 ≤ 16 from I.1 19 5).2), (fun q => zXwk_n (R8 (by omega)) (by rw [F2 64 5 (by first | (simp [fr_M_known]; done) | (unfold fr_M_known; omega)), F1 64 5 (by first | (simp [fr_S_known]; done) | (unfold fr_S_known; omega))]) (fun k => by rw [F2 75 k (by first | (simp [fr_M_known]; done) | (unfold fr_M_known; omega)), F1 75 k (by first | (simp [fr_S_known]; done) | (unfold fr_S_known; omega))]) (fun k => by rw [F2 76 k (by first | (simp [fr_M_known]; done) | (unfold fr_M_known; omega)), F1 76 k (by first | (simp [fr_S_known]; done) | (unfold fr_S_known; omega))]) (fun k => by rw [F2 250 k (by first | (simp [fr_M_known]; done) | (unfold fr_M_known; omega)), F1 250 k (by first | (simp [fr_S_known]; done) | (unfold fr_S_known; omega))])), (zXg_n R9 (by rw [F2 19 2 (by first | (simp [fr_M_known]; done) | (unfold fr_M_known; omega)), F1 19 2 (by first | (simp [fr_S_known]; done) | (unfold fr_S_known; omega))]) (by rw [F2 214 35 (by first | (simp [fr_M_known]; done) | (unfold fr_M_known; omega)), F1 214 35 (by first | (simp [fr_S_known]; done) | (unfold fr_S_known; omega))]) (fun k => by rw [F2 29 k (by first | (simp [fr_M_known]; done) | (unfold fr_M_known; omega)), F1 29 k (by first | (simp [fr_S_known]; done) | (unfold fr_S_known; omega))]) (fun k _ => by rw [F2 232 k (by first | (simp [fr_M_known]; done) | (unfold fr_M_known; omega)), F1 232 k (by first | (simp [fr_S_known]; done) | (unfold fr_S_known; omega))])), (fun q => zXgk_n (R10 (by omega)) (by rw [F2 64 2 (by first | (simp [fr_M_known]; done) | (unfold fr_M_known; omega)), F1 64 2 (by first | (simp [fr_S_known]; done) | (unfold fr_S_known; omega))]) (fun k => by rw [F2 74 k (by first | (simp [fr_M_known]; done) | (unfold fr_M_known; omega)), F1 74 k (by first | (simp [fr_S_known]; done) | (unfold fr_S_known; omega))]) (fun k => by rw [F2 250 k (by first | (simp [fr_M_known]; done) | (unfold fr_M_known; omega)), F1 250 k (by first | (simp [fr_S_known]; done) | (unfold fr_S_known; omega))])), (zBD_n R11 (fun a i h => (F2 a i (zbg_M_knownFt h)).trans (F1 a i (zbg_S_knownFt h))) (fun a i h => (F2 a i (zbg_M_knownFc h)).trans (F1 a i (zbg_S_knownFc h)))), Z2⟩
