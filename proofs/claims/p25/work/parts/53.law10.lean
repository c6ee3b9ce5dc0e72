-- by program (wip/gen/mklaw.py)
theorem zpf_S_parts {a : Nat} {i : Int} (hc : zPc a i) : ¬ fr_S_parts a i := fun w => by
  unfold fr_S_parts at w
  unfold zPc at hc
  omega
theorem zpf_M_parts {a : Nat} {i : Int} (hc : zPc a i) : ¬ fr_M_parts a i := fun w => by
  have ha := zPc_le hc
  unfold fr_M_parts at w
  clear hc
  omega
theorem zbg_M_partsFt {a : Nat} {i : Int} (h : zFt a i) : ¬ fr_M_parts a i := fun w => by
  unfold fr_M_parts at w
  unfold zFt at h
  omega
theorem zbg_S_partsFt {a : Nat} {i : Int} (h : zFt a i) : ¬ fr_S_parts a i := fun w => by
  unfold fr_S_parts at w
  unfold zFt at h
  omega
theorem zbg_M_partsFc {a : Nat} {i : Int} (h : zFc a i) : ¬ fr_M_parts a i := fun w => by
  unfold fr_M_parts at w
  unfold zFc at h
  omega
theorem zbg_S_partsFc {a : Nat} {i : Int} (h : zFc a i) : ¬ fr_S_parts a i := fun w => by
  unfold fr_S_parts at w
  unfold zFc at h
  omega
theorem zbg_M_partsFlw {a : Nat} {i : Int} (h : zFlw a i) : ¬ fr_M_parts a i := fun w => by
  unfold fr_M_parts at w
  unfold zFlw at h
  omega
theorem zbg_S_partsFlw {a : Nat} {i : Int} (h : zFlw a i) : ¬ fr_S_parts a i := fun w => by
  unfold fr_S_parts at w
  unfold zFlw at h
  omega
theorem zbg_M_partsFlk {a : Nat} {i : Int} (h : zFlk a i) : ¬ fr_M_parts a i := fun w => by
  unfold fr_M_parts at w
  unfold zFlk at h
  omega
theorem zbg_S_partsFlk {a : Nat} {i : Int} (h : zFlk a i) : ¬ fr_S_parts a i := fun w => by
  unfold fr_S_parts at w
  unfold zFlk at h
  omega
theorem zbg_M_partsFe {a : Nat} {i : Int} (h : zFe a i) : ¬ fr_M_parts a i := fun w => by
  unfold fr_M_parts at w
  unfold zFe at h
  omega
theorem zbg_S_partsFe {a : Nat} {i : Int} (h : zFe a i) : ¬ fr_S_parts a i := fun w => by
  unfold fr_S_parts at w
  unfold zFe at h
  omega
set_option maxRecDepth 100000 in
set_option maxHeartbeats 4000000 in
theorem zw_c22 {E : sx_E} {i : Int} {g : zi_M} (hL : sx_Ln E ≤ 3072) (h0 : 0 ≤ i) (h6 : i + 6 ≤ ((sx_Ln E : Nat) : Int)) (R : zw_R g) (k : ∀ g' : zi_M, zw_R g' → zi_W E 420 326 1356 [some (.ref 1000000000), some (.ref 0), some (.ref 214), some (zi_i i)] [] g' zw_Q) : zi_W E 420 326 896 [some (.ref 1000000000), some (.ref 0), some (.ref 214), some (zi_i i)] [] g zw_Q := by
  obtain ⟨I, R0, R1, R2, R3, R4, R5, R6, R7, R8, R9, R10, R11, R12, R13, R14, R15, R16, R17, R18, R19, R20, R21⟩ := R
  refine zi_aload_n (pc' := 897) rfl rfl rfl ?_
  refine zi_aload_n (pc' := 898) rfl rfl rfl ?_
  refine zi_iload_n (pc' := 899) rfl rfl rfl ?_
  refine zi_iconst (pc' := 900) rfl rfl ?_
  refine zi_iadd (pc' := 901) rfl rfl ?_
  refine zi_xald (pc' := 902) rfl rfl hL ⟨by omega, by omega⟩ ?_
  refine zi_callV (d' := 4) (as := [_]) (pc' := 905) rfl rfl rfl rfl (by decide) (s_S_parts (Q := fun v g' => zk_I g' ∧ zk_fr fr_S_parts g g') (Nat.le_refl _) (k_S_parts I (zw_r _ _) (fun v g' I' F' h0 => ⟨I', F'⟩))) (zi_ki (fun v1 g1 h1 => ?_))
  obtain ⟨I1, F1⟩ := h1
  have c1_0_2 : g1 0 2 = g 0 2 := F1 0 2 (by first | (simp [fr_S_parts]; done) | (unfold fr_S_parts; omega))
  have c1_0_8 : g1 0 8 = g 0 8 := F1 0 8 (by first | (simp [fr_S_parts]; done) | (unfold fr_S_parts; omega))
  have c1_2_8 : g1 2 8 = g 2 8 := F1 2 8 (by first | (simp [fr_S_parts]; done) | (unfold fr_S_parts; omega))
  have c1_2_11 : g1 2 11 = g 2 11 := F1 2 11 (by first | (simp [fr_S_parts]; done) | (unfold fr_S_parts; omega))
  have c1_47_8 : g1 47 8 = g 47 8 := F1 47 8 (by first | (simp [fr_S_parts]; done) | (unfold fr_S_parts; omega))
  have c1_47_11 : g1 47 11 = g 47 11 := F1 47 11 (by first | (simp [fr_S_parts]; done) | (unfold fr_S_parts; omega))
  have c1_214_6 : g1 214 6 = g 214 6 := F1 214 6 (by first | (simp [fr_S_parts]; done) | (unfold fr_S_parts; omega))
  have c1_214_7 : g1 214 7 = g 214 7 := F1 214 7 (by first | (simp [fr_S_parts]; done) | (unfold fr_S_parts; omega))
  have c1_214_13 : g1 214 13 = g 214 13 := F1 214 13 (by first | (simp [fr_S_parts]; done) | (unfold fr_S_parts; omega))
  have c1_214_62 : g1 214 62 = g 214 62 := F1 214 62 (by first | (simp [fr_S_parts]; done) | (unfold fr_S_parts; omega))
  have c1_250_264 : g1 250 264 = g 250 264 := F1 250 264 (by first | (simp [fr_S_parts]; done) | (unfold fr_S_parts; omega))
  have c1_250_265 : g1 250 265 = g 250 265 := F1 250 265 (by first | (simp [fr_S_parts]; done) | (unfold fr_S_parts; omega))
  have Z1 : zP g1 := zP_eq (fun a i hc => F1 a i (zpf_S_parts hc)) R21
  refine zi_pop (pc' := 906) rfl rfl rfl ?_
  refine zi_aload_n (pc' := 907) rfl rfl rfl ?_
  refine zi_aload_n (pc' := 908) rfl rfl rfl ?_
  refine zi_iload_n (pc' := 909) rfl rfl rfl ?_
  refine zi_iconst (pc' := 910) rfl rfl ?_
  refine zi_iadd (pc' := 911) rfl rfl ?_
  refine zi_xald (pc' := 912) rfl rfl hL ⟨by omega, by omega⟩ ?_
  refine zi_callV (d' := 4) (as := [_]) (pc' := 915) rfl rfl rfl rfl (by decide) (s_M_parts (Q := fun v g' => zk_I g' ∧ zk_fr fr_M_parts g1 g') (Nat.le_refl _) (k_M_parts I1 (zw_r _ _) (fun v g' I' F' h0 => ⟨I', F'⟩))) (zi_ki (fun v2 g2 h2 => ?_))
  obtain ⟨I2, F2⟩ := h2
  have c2_0_2 : g2 0 2 = g1 0 2 := F2 0 2 (by first | (simp [fr_M_parts]; done) | (unfold fr_M_parts; omega))
  have c2_0_8 : g2 0 8 = g1 0 8 := F2 0 8 (by first | (simp [fr_M_parts]; done) | (unfold fr_M_parts; omega))
  have c2_2_8 : g2 2 8 = g1 2 8 := F2 2 8 (by first | (simp [fr_M_parts]; done) | (unfold fr_M_parts; omega))
  have c2_2_11 : g2 2 11 = g1 2 11 := F2 2 11 (by first | (simp [fr_M_parts]; done) | (unfold fr_M_parts; omega))
  have c2_47_8 : g2 47 8 = g1 47 8 := F2 47 8 (by first | (simp [fr_M_parts]; done) | (unfold fr_M_parts; omega))
  have c2_47_11 : g2 47 11 = g1 47 11 := F2 47 11 (by first | (simp [fr_M_parts]; done) | (unfold fr_M_parts; omega))
  have c2_214_6 : g2 214 6 = g1 214 6 := F2 214 6 (by first | (simp [fr_M_parts]; done) | (unfold fr_M_parts; omega))
  have c2_214_7 : g2 214 7 = g1 214 7 := F2 214 7 (by first | (simp [fr_M_parts]; done) | (unfold fr_M_parts; omega))
  have c2_214_13 : g2 214 13 = g1 214 13 := F2 214 13 (by first | (simp [fr_M_parts]; done) | (unfold fr_M_parts; omega))
  have c2_214_62 : g2 214 62 = g1 214 62 := F2 214 62 (by first | (simp [fr_M_parts]; done) | (unfold fr_M_parts; omega))
  have c2_250_264 : g2 250 264 = g1 250 264 := F2 250 264 (by first | (simp [fr_M_parts]; done) | (unfold fr_M_parts; omega))
  have c2_250_265 : g2 250 265 = g1 250 265 := F2 250 265 (by first | (simp [fr_M_parts]; done) | (unfold fr_M_parts; omega))
  have Z2 : zP g2 := zP_eq (fun a i hc => F2 a i (zpf_M_parts hc)) Z1
  refine zi_pop (pc' := 916) rfl rfl rfl ?_
  refine zi_goto (x := 1356) rfl ?_
  exact k _ ⟨I2, (by rw [c2_0_2, c1_0_2, c2_214_62, c1_214_62]; exact R0), (by rw [c2_0_8, c1_0_8, c2_214_13, c1_214_13]; exact R1), (funext fun k => by rw [F2 190 k (by first | (simp [fr_M_parts]; done) | (unfold fr_M_parts; omega)), F1 190 k (by first | (simp [fr_S_parts]; done) | (unfold fr_S_parts; omega)), F2 222 k (by first | (simp [fr_M_parts]; done) | (unfold fr_M_parts; omega)), F1 222 k (by first | (simp [fr_S_parts]; done) | (unfold fr_S_parts; omega))]; exact congrFun R2 k), (by rw [c2_2_8, c1_2_8, c2_214_6, c1_214_6]; exact R3), (fun q => by rw [c2_47_8, c1_47_8, c2_250_264, c1_250_264]; exact R4 (by rw [c2_0_2, c1_0_2] at q; exact q)), (by rw [c2_2_11, c1_2_11, c2_214_7, c1_214_7]; exact R5), (fun q => by rw [c2_47_11, c1_47_11, c2_250_265, c1_250_265]; exact R6 (by rw [c2_0_2, c1_0_2] at q; exact q)), (zXw_n R7 (by rw [F2 19 5 (by first | (simp [fr_M_parts]; done) | (unfold fr_M_parts; omega)), F1 19 5 (by first | (simp [fr_S_parts]; done) | (unfold fr_S_parts; omega))]) (by rw [F2 214 37 (by first | (simp [fr_M_parts]; done) | (unfold fr_M_parts; omega)), F1 214 37 (by first | (simp [fr_S_parts]; done) | (unfold fr_S_parts; omega))]) (fun k => by rw [F2 30 k (by first | (simp [fr_M_parts]; done) | (unfold fr_M_parts; omega)), F1 30 k (by first | (simp [fr_S_parts]; done) | (unfold fr_S_parts; omega))]) (fun k => by rw [F2 31 k (by first | (simp [fr_M_parts]; done) | (unfold fr_M_parts; omega)), F1 31 k (by first | (simp [fr_S_parts]; done) | (unfold fr_S_parts; omega))]) (fun k _ => by rw [F2 233 k (by first | (simp [fr_M_parts]; done) | (unfold fr_M_parts; omega)), F1 233 k (by first | (simp [fr_S_parts]; done) | (unfold fr_S_parts; omega))]) (show 0 ≤ g 19 5 ∧ g 19 5 ≤ 16 from I.1 19 5).2), (fun q => zXwk_n (R8 (by omega)) (by rw [F2 64 5 (by first | (simp [fr_M_parts]; done) | (unfold fr_M_parts; omega)), F1 64 5 (by first | (simp [fr_S_parts]; done) | (unfold fr_S_parts; omega))]) (fun k => by rw [F2 75 k (by first | (simp [fr_M_parts]; done) | (unfold fr_M_parts; omega)), F1 75 k (by first | (simp [fr_S_parts]; done) | (unfold fr_S_parts; omega))]) (fun k => by rw [F2 76 k (by first | (simp [fr_M_parts]; done) | (unfold fr_M_parts; omega)), F1 76 k (by first | (simp [fr_S_parts]; done) | (unfold fr_S_parts; omega))]) (fun k => by rw [F2 250 k (by first | (simp [fr_M_parts]; done) | (unfold fr_M_parts; omega)), F1 250 k (by first | (simp [fr_S_parts]; done) | (unfold fr_S_parts; omega))])), (zXg_n R9 (by rw [F2 19 2 (by first | (simp [fr_M_parts]; done) | (unfold fr_M_parts; omega)), F1 19 2 (by first | (simp [fr_S_parts]; done) | (unfold fr_S_parts; omega))]) (by rw [F2 214 35 (by first | (simp [fr_M_parts]; done) | (unfold fr_M_parts; omega)), F1 214 35 (by first | (simp [fr_S_parts]; done) | (unfold fr_S_parts; omega))]) (fun k => by rw [F2 29 k (by first | (simp [fr_M_parts]; done) | (unfold fr_M_parts; omega)), F1 29 k (by first | (simp [fr_S_parts]; done) | (unfold fr_S_parts; omega))]) (fun k _ => by rw [F2 232 k (by first | (simp [fr_M_parts]; done) | (unfold fr_M_parts; omega)), F1 232 k (by first | (simp [fr_S_parts]; done) | (unfold fr_S_parts; omega))])), (fun q => zXgk_n (R10 (by omega)) (by rw [F2 64 2 (by first | (simp [fr_M_parts]; done) | (unfold fr_M_parts; omega)), F1 64 2 (by first | (simp [fr_S_parts]; done) | (unfold fr_S_parts; omega))]) (fun k => by rw [F2 74 k (by first | (simp [fr_M_parts]; done) | (unfold fr_M_parts; omega)), F1 74 k (by first | (simp [fr_S_parts]; done) | (unfold fr_S_parts; omega))]) (fun k => by rw [F2 250 k (by first | (simp [fr_M_parts]; done) | (unfold fr_M_parts; omega)), F1 250 k (by first | (simp [fr_S_parts]; done) | (unfold fr_S_parts; omega))])), (zBD_n R11 (fun a i h => (F2 a i (zbg_M_partsFt h)).trans (F1 a i (zbg_S_partsFt h))) (fun a i h => (F2 a i (zbg_M_partsFc h)).trans (F1 a i (zbg_S_partsFc h)))), (zRw_n (fun k => by rw [F2 5 k (by first | (simp [fr_M_parts]; done) | (unfold fr_M_parts; omega)), F1 5 k (by first | (simp [fr_S_parts]; done) | (unfold fr_S_parts; omega))]) (fun k => by rw [F2 220 k (by first | (simp [fr_M_parts]; done) | (unfold fr_M_parts; omega)), F1 220 k (by first | (simp [fr_S_parts]; done) | (unfold fr_S_parts; omega))]) R12), (fun q => zRw_nk (fun k => by rw [F2 50 k (by first | (simp [fr_M_parts]; done) | (unfold fr_M_parts; omega)), F1 50 k (by first | (simp [fr_S_parts]; done) | (unfold fr_S_parts; omega))]) (fun k => by rw [F2 250 k (by first | (simp [fr_M_parts]; done) | (unfold fr_M_parts; omega)), F1 250 k (by first | (simp [fr_S_parts]; done) | (unfold fr_S_parts; omega))]) (R13 (by omega))), (zRw_n (fun k => by rw [F2 3 k (by first | (simp [fr_M_parts]; done) | (unfold fr_M_parts; omega)), F1 3 k (by first | (simp [fr_S_parts]; done) | (unfold fr_S_parts; omega))]) (fun k => by rw [F2 218 k (by first | (simp [fr_M_parts]; done) | (unfold fr_M_parts; omega)), F1 218 k (by first | (simp [fr_S_parts]; done) | (unfold fr_S_parts; omega))]) R14), (fun q => zRw_nk (fun k => by rw [F2 48 k (by first | (simp [fr_M_parts]; done) | (unfold fr_M_parts; omega)), F1 48 k (by first | (simp [fr_S_parts]; done) | (unfold fr_S_parts; omega))]) (fun k => by rw [F2 250 k (by first | (simp [fr_M_parts]; done) | (unfold fr_M_parts; omega)), F1 250 k (by first | (simp [fr_S_parts]; done) | (unfold fr_S_parts; omega))]) (R15 (by omega))), (zRw_n (fun k => by rw [F2 4 k (by first | (simp [fr_M_parts]; done) | (unfold fr_M_parts; omega)), F1 4 k (by first | (simp [fr_S_parts]; done) | (unfold fr_S_parts; omega))]) (fun k => by rw [F2 219 k (by first | (simp [fr_M_parts]; done) | (unfold fr_M_parts; omega)), F1 219 k (by first | (simp [fr_S_parts]; done) | (unfold fr_S_parts; omega))]) R16), (fun q => zRw_nk (fun k => by rw [F2 49 k (by first | (simp [fr_M_parts]; done) | (unfold fr_M_parts; omega)), F1 49 k (by first | (simp [fr_S_parts]; done) | (unfold fr_S_parts; omega))]) (fun k => by rw [F2 250 k (by first | (simp [fr_M_parts]; done) | (unfold fr_M_parts; omega)), F1 250 k (by first | (simp [fr_S_parts]; done) | (unfold fr_S_parts; omega))]) (R17 (by omega))), (zLW_n R18 (show 0 ≤ g 224 0 ∧ g 224 0 ≤ 16 from I.1 224 0).2 (fun a i h => (F2 a i (zbg_M_partsFlw h)).trans (F1 a i (zbg_S_partsFlw h)))), (fun q => zLWk_n (R19 (by omega)) (fun a i h => (F2 a i (zbg_M_partsFlk h)).trans (F1 a i (zbg_S_partsFlk h)))), (zFD_n R20 (fun a i h => (F2 a i (zbg_M_partsFe h)).trans (F1 a i (zbg_S_partsFe h)))), Z2⟩
theorem zpf_S_known {a : Nat} {i : Int} (hc : zPc a i) : ¬ fr_S_known a i := fun w => by
  unfold fr_S_known at w
  unfold zPc at hc
  omega
theorem zpf_M_known {a : Nat} {i : Int} (hc : zPc a i) : ¬ fr_M_known a i := fun w => by
  have ha := zPc_le hc
  unfold fr_M_known at w
  clear hc
  omega
theorem zbg_M_knownFt {a : Nat} {i : Int} (h : zFt a i) : ¬ fr_M_known a i := fun w => by
  unfold fr_M_known at w
  unfold zFt at h
  omega
theorem zbg_S_knownFt {a : Nat} {i : Int} (h : zFt a i) : ¬ fr_S_known a i := fun w => by
  unfold fr_S_known at w
  unfold zFt at h
  omega
theorem zbg_M_knownFc {a : Nat} {i : Int} (h : zFc a i) : ¬ fr_M_known a i := fun w => by
  unfold fr_M_known at w
  unfold zFc at h
  omega
theorem zbg_S_knownFc {a : Nat} {i : Int} (h : zFc a i) : ¬ fr_S_known a i := fun w => by
  unfold fr_S_known at w
  unfold zFc at h
  omega
theorem zbg_M_knownFlw {a : Nat} {i : Int} (h : zFlw a i) : ¬ fr_M_known a i := fun w => by
  unfold fr_M_known at w
  unfold zFlw at h
  omega
theorem zbg_S_knownFlw {a : Nat} {i : Int} (h : zFlw a i) : ¬ fr_S_known a i := fun w => by
  unfold fr_S_known at w
  unfold zFlw at h
  omega
theorem zbg_M_knownFlk {a : Nat} {i : Int} (h : zFlk a i) : ¬ fr_M_known a i := fun w => by
  unfold fr_M_known at w
  unfold zFlk at h
  omega
theorem zbg_S_knownFlk {a : Nat} {i : Int} (h : zFlk a i) : ¬ fr_S_known a i := fun w => by
  unfold fr_S_known at w
  unfold zFlk at h
  omega
theorem zbg_M_knownFe {a : Nat} {i : Int} (h : zFe a i) : ¬ fr_M_known a i := fun w => by
  unfold fr_M_known at w
  unfold zFe at h
  omega
theorem zbg_S_knownFe {a : Nat} {i : Int} (h : zFe a i) : ¬ fr_S_known a i := fun w => by
  unfold fr_S_known at w
  unfold zFe at h
  omega
set_option maxRecDepth 100000 in
set_option maxHeartbeats 4000000 in
theorem zw_c23 {E : sx_E} {i : Int} {g : zi_M} (hL : sx_Ln E ≤ 3072) (h0 : 0 ≤ i) (h6 : i + 6 ≤ ((sx_Ln E : Nat) : Int)) (R : zw_R g) (k : ∀ g' : zi_M, zw_R g' → zi_W E 420 326 1356 [some (.ref 1000000000), some (.ref 0), some (.ref 214), some (zi_i i)] [] g' zw_Q) : zi_W E 420 326 919 [some (.ref 1000000000), some (.ref 0), some (.ref 214), some (zi_i i)] [] g zw_Q := by
  obtain ⟨I, R0, R1, R2, R3, R4, R5, R6, R7, R8, R9, R10, R11, R12, R13, R14, R15, R16, R17, R18, R19, R20, R21⟩ := R
  refine zi_aload_n (pc' := 920) rfl rfl rfl ?_
  refine zi_aload_n (pc' := 921) rfl rfl rfl ?_
  refine zi_iload_n (pc' := 922) rfl rfl rfl ?_
  refine zi_iconst (pc' := 923) rfl rfl ?_
  refine zi_iadd (pc' := 924) rfl rfl ?_
  refine zi_xald (pc' := 925) rfl rfl hL ⟨by omega, by omega⟩ ?_
  refine zi_aload_n (pc' := 926) rfl rfl rfl ?_
  refine zi_iload_n (pc' := 927) rfl rfl rfl ?_
  refine zi_iconst (pc' := 928) rfl rfl ?_
  refine zi_iadd (pc' := 929) rfl rfl ?_
  refine zi_xald (pc' := 930) rfl rfl hL ⟨by omega, by omega⟩ ?_
  refine zi_callV (d' := 5) (as := [_, _]) (pc' := 933) rfl rfl rfl rfl (by decide) (s_S_known (Q := fun v g' => zk_I g' ∧ zk_fr fr_S_known g g' ∧ ((-1) ≤ v ∧ v ≤ 1023) ∧ (zknS g (zw_s E (i + 1)) (zw_s E (i + 2)) v)) (Nat.le_refl _) (k_S_known I (zw_r _ _) (zw_r _ _) (fun v g' I' F' h0 h1 => ⟨I', F', h0, h1⟩))) (zi_ki (fun v1 g1 h1 => ?_))
  obtain ⟨I1, F1, p1_0, p1_1⟩ := h1
  have c1_0_2 : g1 0 2 = g 0 2 := F1 0 2 (by first | (simp [fr_S_known]; done) | (unfold fr_S_known; omega))
  have c1_0_8 : g1 0 8 = g 0 8 := F1 0 8 (by first | (simp [fr_S_known]; done) | (unfold fr_S_known; omega))
  have c1_2_8 : g1 2 8 = g 2 8 := F1 2 8 (by first | (simp [fr_S_known]; done) | (unfold fr_S_known; omega))
  have c1_2_11 : g1 2 11 = g 2 11 := F1 2 11 (by first | (simp [fr_S_known]; done) | (unfold fr_S_known; omega))
  have c1_47_8 : g1 47 8 = g 47 8 := F1 47 8 (by first | (simp [fr_S_known]; done) | (unfold fr_S_known; omega))
  have c1_47_11 : g1 47 11 = g 47 11 := F1 47 11 (by first | (simp [fr_S_known]; done) | (unfold fr_S_known; omega))
  have c1_214_6 : g1 214 6 = g 214 6 := F1 214 6 (by first | (simp [fr_S_known]; done) | (unfold fr_S_known; omega))
  have c1_214_7 : g1 214 7 = g 214 7 := F1 214 7 (by first | (simp [fr_S_known]; done) | (unfold fr_S_known; omega))
  have c1_214_13 : g1 214 13 = g 214 13 := F1 214 13 (by first | (simp [fr_S_known]; done) | (unfold fr_S_known; omega))
  have c1_214_62 : g1 214 62 = g 214 62 := F1 214 62 (by first | (simp [fr_S_known]; done) | (unfold fr_S_known; omega))
  have c1_250_264 : g1 250 264 = g 250 264 := F1 250 264 (by first | (simp [fr_S_known]; done) | (unfold fr_S_known; omega))
  have c1_250_265 : g1 250 265 = g 250 265 := F1 250 265 (by first | (simp [fr_S_known]; done) | (unfold fr_S_known; omega))
  have Z1 : zP g1 := zP_eq (fun a i hc => F1 a i (zpf_S_known hc)) R21
  refine zi_aload_n (pc' := 934) rfl rfl rfl ?_
  refine zi_aload_n (pc' := 935) rfl rfl rfl ?_
  refine zi_iload_n (pc' := 936) rfl rfl rfl ?_
  refine zi_iconst (pc' := 937) rfl rfl ?_
  refine zi_iadd (pc' := 938) rfl rfl ?_
  refine zi_xald (pc' := 939) rfl rfl hL ⟨by omega, by omega⟩ ?_
  refine zi_aload_n (pc' := 940) rfl rfl rfl ?_
  refine zi_iload_n (pc' := 941) rfl rfl rfl ?_
  refine zi_iconst (pc' := 942) rfl rfl ?_
  refine zi_iadd (pc' := 943) rfl rfl ?_
  refine zi_xald (pc' := 944) rfl rfl hL ⟨by omega, by omega⟩ ?_
  refine zi_callV (d' := 3) (as := [_, _]) (pc' := 947) rfl rfl rfl rfl (by decide) (s_M_known (Q := fun v g' => zk_I g' ∧ zk_fr fr_M_known g1 g' ∧ ((-1) ≤ v ∧ v ≤ 65535) ∧ (zknM g1 (zw_s E (i + 1)) (zw_s E (i + 2)) v)) (Nat.le_refl _) (k_M_known I1 (zw_r _ _) (zw_r _ _) (fun v g' I' F' h0 h1 => ⟨I', F', h0, h1⟩))) (zi_ki (fun v2 g2 h2 => ?_))
  obtain ⟨I2, F2, p2_0, p2_1⟩ := h2
  have c2_0_2 : g2 0 2 = g1 0 2 := F2 0 2 (by first | (simp [fr_M_known]; done) | (unfold fr_M_known; omega))
  have c2_0_8 : g2 0 8 = g1 0 8 := F2 0 8 (by first | (simp [fr_M_known]; done) | (unfold fr_M_known; omega))
  have c2_2_8 : g2 2 8 = g1 2 8 := F2 2 8 (by first | (simp [fr_M_known]; done) | (unfold fr_M_known; omega))
  have c2_2_11 : g2 2 11 = g1 2 11 := F2 2 11 (by first | (simp [fr_M_known]; done) | (unfold fr_M_known; omega))
  have c2_47_8 : g2 47 8 = g1 47 8 := F2 47 8 (by first | (simp [fr_M_known]; done) | (unfold fr_M_known; omega))
  have c2_47_11 : g2 47 11 = g1 47 11 := F2 47 11 (by first | (simp [fr_M_known]; done) | (unfold fr_M_known; omega))
  have c2_214_6 : g2 214 6 = g1 214 6 := F2 214 6 (by first | (simp [fr_M_known]; done) | (unfold fr_M_known; omega))
  have c2_214_7 : g2 214 7 = g1 214 7 := F2 214 7 (by first | (simp [fr_M_known]; done) | (unfold fr_M_known; omega))
  have c2_214_13 : g2 214 13 = g1 214 13 := F2 214 13 (by first | (simp [fr_M_known]; done) | (unfold fr_M_known; omega))
  have c2_214_62 : g2 214 62 = g1 214 62 := F2 214 62 (by first | (simp [fr_M_known]; done) | (unfold fr_M_known; omega))
  have c2_250_264 : g2 250 264 = g1 250 264 := F2 250 264 (by first | (simp [fr_M_known]; done) | (unfold fr_M_known; omega))
  have c2_250_265 : g2 250 265 = g1 250 265 := F2 250 265 (by first | (simp [fr_M_known]; done) | (unfold fr_M_known; omega))
  have Z2 : zP g2 := zP_eq (fun a i hc => F2 a i (zpf_M_known hc)) Z1
  have e2 : v2 = v1 := zkn_eq I R20 R3 p1_1 p2_1 (fun a i h => F1 a i (fun w => by unfold fr_S_known at w; omega)) (F1 2 11 (fun w => by unfold fr_S_known at w; omega))
  refine zi_icmp_eq (x := 1356) (pc' := 950) rfl rfl ⟨by omega, by omega⟩ (by rw [e2]; exact ⟨by omega, by omega⟩) (fun c => ?_) (fun c => absurd e2.symm c)
  exact k _ ⟨I2, (by rw [c2_0_2, c1_0_2, c2_214_62, c1_214_62]; exact R0), (by rw [c2_0_8, c1_0_8, c2_214_13, c1_214_13]; exact R1), (funext fun k => by rw [F2 190 k (by first | (simp [fr_M_known]; done) | (unfold fr_M_known; omega)), F1 190 k (by first | (simp [fr_S_known]; done) | (unfold fr_S_known; omega)), F2 222 k (by first | (simp [fr_M_known]; done) | (unfold fr_M_known; omega)), F1 222 k (by first | (simp [fr_S_known]; done) | (unfold fr_S_known; omega))]; exact congrFun R2 k), (by rw [c2_2_8, c1_2_8, c2_214_6, c1_214_6]; exact R3), (fun q => by rw [c2_47_8, c1_47_8, c2_250_264, c1_250_264]; exact R4 (by rw [c2_0_2, c1_0_2] at q; exact q)), (by rw [c2_2_11, c1_2_11, c2_214_7, c1_214_7]; exact R5), (fun q => by rw [c2_47_11, c1_47_11, c2_250_265, c1_250_265]; exact R6 (by rw [c2_0_2, c1_0_2] at q; exact q)), (zXw_n R7 (by rw [F2 19 5 (by first | (simp [fr_M_known]; done) | (unfold fr_M_known; omega)), F1 19 5 (by first | (simp [fr_S_known]; done) | (unfold fr_S_known; omega))]) (by rw [F2 214 37 (by first | (simp [fr_M_known]; done) | (unfold fr_M_known; omega)), F1 214 37 (by first | (simp [fr_S_known]; done) | (unfold fr_S_known; omega))]) (fun k => by rw [F2 30 k (by first | (simp [fr_M_known]; done) | (unfold fr_M_known; omega)), F1 30 k (by first | (simp [fr_S_known]; done) | (unfold fr_S_known; omega))]) (fun k => by rw [F2 31 k (by first | (simp [fr_M_known]; done) | (unfold fr_M_known; omega)), F1 31 k (by first | (simp [fr_S_known]; done) | (unfold fr_S_known; omega))]) (fun k _ => by rw [F2 233 k (by first | (simp [fr_M_known]; done) | (unfold fr_M_known; omega)), F1 233 k (by first | (simp [fr_S_known]; done) | (unfold fr_S_known; omega))]) (show 0 ≤ g 19 5 ∧ g 19 5 ≤ 16 from I.1 19 5).2), (fun q => zXwk_n (R8 (by omega)) (by rw [F2 64 5 (by first | (simp [fr_M_known]; done) | (unfold fr_M_known; omega)), F1 64 5 (by first | (simp [fr_S_known]; done) | (unfold fr_S_known; omega))]) (fun k => by rw [F2 75 k (by first | (simp [fr_M_known]; done) | (unfold fr_M_known; omega)), F1 75 k (by first | (simp [fr_S_known]; done) | (unfold fr_S_known; omega))]) (fun k => by rw [F2 76 k (by first | (simp [fr_M_known]; done) | (unfold fr_M_known; omega)), F1 76 k (by first | (simp [fr_S_known]; done) | (unfold fr_S_known; omega))]) (fun k => by rw [F2 250 k (by first | (simp [fr_M_known]; done) | (unfold fr_M_known; omega)), F1 250 k (by first | (simp [fr_S_known]; done) | (unfold fr_S_known; omega))])), (zXg_n R9 (by rw [F2 19 2 (by first | (simp [fr_M_known]; done) | (unfold fr_M_known; omega)), F1 19 2 (by first | (simp [fr_S_known]; done) | (unfold fr_S_known; omega))]) (by rw [F2 214 35 (by first | (simp [fr_M_known]; done) | (unfold fr_M_known; omega)), F1 214 35 (by first | (simp [fr_S_known]; done) | (unfold fr_S_known; omega))]) (fun k => by rw [F2 29 k (by first | (simp [fr_M_known]; done) | (unfold fr_M_known; omega)), F1 29 k (by first | (simp [fr_S_known]; done) | (unfold fr_S_known; omega))]) (fun k _ => by rw [F2 232 k (by first | (simp [fr_M_known]; done) | (unfold fr_M_known; omega)), F1 232 k (by first | (simp [fr_S_known]; done) | (unfold fr_S_known; omega))])), (fun q => zXgk_n (R10 (by omega)) (by rw [F2 64 2 (by first | (simp [fr_M_known]; done) | (unfold fr_M_known; omega)), F1 64 2 (by first | (simp [fr_S_known]; done) | (unfold fr_S_known; omega))]) (fun k => by rw [F2 74 k (by first | (simp [fr_M_known]; done) | (unfold fr_M_known; omega)), F1 74 k (by first | (simp [fr_S_known]; done) | (unfold fr_S_known; omega))]) (fun k => by rw [F2 250 k (by first | (simp [fr_M_known]; done) | (unfold fr_M_known; omega)), F1 250 k (by first | (simp [fr_S_known]; done) | (unfold fr_S_known; omega))])), (zBD_n R11 (fun a i h => (F2 a i (zbg_M_knownFt h)).trans (F1 a i (zbg_S_knownFt h))) (fun a i h => (F2 a i (zbg_M_knownFc h)).trans (F1 a i (zbg_S_knownFc h)))), (zRw_n (fun k => by rw [F2 5 k (by first | (simp [fr_M_known]; done) | (unfold fr_M_known; omega)), F1 5 k (by first | (simp [fr_S_known]; done) | (unfold fr_S_known; omega))]) (fun k => by rw [F2 220 k (by first | (simp [fr_M_known]; done) | (unfold fr_M_known; omega)), F1 220 k (by first | (simp [fr_S_known]; done) | (unfold fr_S_known; omega))]) R12), (fun q => zRw_nk (fun k => by rw [F2 50 k (by first | (simp [fr_M_known]; done) | (unfold fr_M_known; omega)), F1 50 k (by first | (simp [fr_S_known]; done) | (unfold fr_S_known; omega))]) (fun k => by rw [F2 250 k (by first | (simp [fr_M_known]; done) | (unfold fr_M_known; omega)), F1 250 k (by first | (simp [fr_S_known]; done) | (unfold fr_S_known; omega))]) (R13 (by omega))), (zRw_n (fun k => by rw [F2 3 k (by first | (simp [fr_M_known]; done) | (unfold fr_M_known; omega)), F1 3 k (by first | (simp [fr_S_known]; done) | (unfold fr_S_known; omega))]) (fun k => by rw [F2 218 k (by first | (simp [fr_M_known]; done) | (unfold fr_M_known; omega)), F1 218 k (by first | (simp [fr_S_known]; done) | (unfold fr_S_known; omega))]) R14), (fun q => zRw_nk (fun k => by rw [F2 48 k (by first | (simp [fr_M_known]; done) | (unfold fr_M_known; omega)), F1 48 k (by first | (simp [fr_S_known]; done) | (unfold fr_S_known; omega))]) (fun k => by rw [F2 250 k (by first | (simp [fr_M_known]; done) | (unfold fr_M_known; omega)), F1 250 k (by first | (simp [fr_S_known]; done) | (unfold fr_S_known; omega))]) (R15 (by omega))), (zRw_n (fun k => by rw [F2 4 k (by first | (simp [fr_M_known]; done) | (unfold fr_M_known; omega)), F1 4 k (by first | (simp [fr_S_known]; done) | (unfold fr_S_known; omega))]) (fun k => by rw [F2 219 k (by first | (simp [fr_M_known]; done) | (unfold fr_M_known; omega)), F1 219 k (by first | (simp [fr_S_known]; done) | (unfold fr_S_known; omega))]) R16), (fun q => zRw_nk (fun k => by rw [F2 49 k (by first | (simp [fr_M_known]; done) | (unfold fr_M_known; omega)), F1 49 k (by first | (simp [fr_S_known]; done) | (unfold fr_S_known; omega))]) (fun k => by rw [F2 250 k (by first | (simp [fr_M_known]; done) | (unfold fr_M_known; omega)), F1 250 k (by first | (simp [fr_S_known]; done) | (unfold fr_S_known; omega))]) (R17 (by omega))), (zLW_n R18 (show 0 ≤ g 224 0 ∧ g 224 0 ≤ 16 from I.1 224 0).2 (fun a i h => (F2 a i (zbg_M_knownFlw h)).trans (F1 a i (zbg_S_knownFlw h)))), (fun q => zLWk_n (R19 (by omega)) (fun a i h => (F2 a i (zbg_M_knownFlk h)).trans (F1 a i (zbg_S_knownFlk h)))), (zFD_n R20 (fun a i h => (F2 a i (zbg_M_knownFe h)).trans (F1 a i (zbg_S_knownFe h)))), Z2⟩
