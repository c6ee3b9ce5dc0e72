-- by program (wip/gen/mklaw.py)
theorem zpf_S_keeps {a : Nat} {i : Int} (hc : zPc a i) : ¬ fr_S_keeps a i := fun w => by
  unfold fr_S_keeps at w
  unfold zPc at hc
  omega
theorem zpf_M_keeps {a : Nat} {i : Int} (hc : zPc a i) : ¬ fr_M_keeps a i := fun w => by
  have ha := zPc_le hc
  unfold fr_M_keeps at w
  clear hc
  omega
theorem zbg_M_keepsFt {a : Nat} {i : Int} (h : zFt a i) : ¬ fr_M_keeps a i := fun w => by
  unfold fr_M_keeps at w
  unfold zFt at h
  omega
theorem zbg_S_keepsFt {a : Nat} {i : Int} (h : zFt a i) : ¬ fr_S_keeps a i := fun w => by
  unfold fr_S_keeps at w
  unfold zFt at h
  omega
theorem zbg_M_keepsFc {a : Nat} {i : Int} (h : zFc a i) : ¬ fr_M_keeps a i := fun w => by
  unfold fr_M_keeps at w
  unfold zFc at h
  omega
theorem zbg_S_keepsFc {a : Nat} {i : Int} (h : zFc a i) : ¬ fr_S_keeps a i := fun w => by
  unfold fr_S_keeps at w
  unfold zFc at h
  omega
theorem zbg_M_keepsFlw {a : Nat} {i : Int} (h : zFlw a i) : ¬ fr_M_keeps a i := fun w => by
  unfold fr_M_keeps at w
  unfold zFlw at h
  omega
theorem zbg_S_keepsFlw {a : Nat} {i : Int} (h : zFlw a i) : ¬ fr_S_keeps a i := fun w => by
  unfold fr_S_keeps at w
  unfold zFlw at h
  omega
theorem zbg_M_keepsFlk {a : Nat} {i : Int} (h : zFlk a i) : ¬ fr_M_keeps a i := fun w => by
  unfold fr_M_keeps at w
  unfold zFlk at h
  omega
theorem zbg_S_keepsFlk {a : Nat} {i : Int} (h : zFlk a i) : ¬ fr_S_keeps a i := fun w => by
  unfold fr_S_keeps at w
  unfold zFlk at h
  omega
theorem zbg_M_keepsFe {a : Nat} {i : Int} (h : zFe a i) : ¬ fr_M_keeps a i := fun w => by
  unfold fr_M_keeps at w
  unfold zFe at h
  omega
theorem zbg_S_keepsFe {a : Nat} {i : Int} (h : zFe a i) : ¬ fr_S_keeps a i := fun w => by
  unfold fr_S_keeps at w
  unfold zFe at h
  omega
set_option maxRecDepth 100000 in
set_option maxHeartbeats 4000000 in
theorem zw_c27 {E : sx_E} {i : Int} {g : zi_M} (hL : sx_Ln E ≤ 3072) (h0 : 0 ≤ i) (h6 : i + 6 ≤ ((sx_Ln E : Nat) : Int)) (R : zw_R g) (k : ∀ g' : zi_M, zw_R g' → zi_W E 420 326 1356 [some (.ref 1000000000), some (.ref 0), some (.ref 214), some (zi_i i)] [] g' zw_Q) : zi_W E 420 326 1067 [some (.ref 1000000000), some (.ref 0), some (.ref 214), some (zi_i i)] [] g zw_Q := by
  obtain ⟨I, R0, R1, R2, R3, R4, R5, R6, R7, R8, R9, R10, R11, R12, R13, R14, R15, R16, R17, R18, R19, R20, R21⟩ := R
  refine zi_aload_n (pc' := 1068) rfl rfl rfl ?_
  refine zi_aload_n (pc' := 1069) rfl rfl rfl ?_
  refine zi_iload_n (pc' := 1070) rfl rfl rfl ?_
  refine zi_iconst (pc' := 1071) rfl rfl ?_
  refine zi_iadd (pc' := 1072) rfl rfl ?_
  refine zi_xald (pc' := 1073) rfl rfl hL ⟨by omega, by omega⟩ ?_
  refine zi_callV (d' := 4) (as := [_]) (pc' := 1076) rfl rfl rfl rfl (by decide) (s_S_keeps (Q := fun v g' => zk_I g' ∧ zk_fr fr_S_keeps g g') (Nat.le_refl _) (k_S_keeps I (zw_r _ _) (fun v g' I' F' h0 h1 h2 h3 => ⟨I', F'⟩))) (zi_ki (fun v1 g1 h1 => ?_))
  obtain ⟨I1, F1⟩ := h1
  have c1_0_2 : g1 0 2 = g 0 2 := F1 0 2 (by first | (simp [fr_S_keeps]; done) | (unfold fr_S_keeps; omega))
  have c1_0_8 : g1 0 8 = g 0 8 := F1 0 8 (by first | (simp [fr_S_keeps]; done) | (unfold fr_S_keeps; omega))
  have c1_2_8 : g1 2 8 = g 2 8 := F1 2 8 (by first | (simp [fr_S_keeps]; done) | (unfold fr_S_keeps; omega))
  have c1_2_11 : g1 2 11 = g 2 11 := F1 2 11 (by first | (simp [fr_S_keeps]; done) | (unfold fr_S_keeps; omega))
  have c1_47_8 : g1 47 8 = g 47 8 := F1 47 8 (by first | (simp [fr_S_keeps]; done) | (unfold fr_S_keeps; omega))
  have c1_47_11 : g1 47 11 = g 47 11 := F1 47 11 (by first | (simp [fr_S_keeps]; done) | (unfold fr_S_keeps; omega))
  have c1_214_6 : g1 214 6 = g 214 6 := F1 214 6 (by first | (simp [fr_S_keeps]; done) | (unfold fr_S_keeps; omega))
  have c1_214_7 : g1 214 7 = g 214 7 := F1 214 7 (by first | (simp [fr_S_keeps]; done) | (unfold fr_S_keeps; omega))
  have c1_214_13 : g1 214 13 = g 214 13 := F1 214 13 (by first | (simp [fr_S_keeps]; done) | (unfold fr_S_keeps; omega))
  have c1_214_62 : g1 214 62 = g 214 62 := F1 214 62 (by first | (simp [fr_S_keeps]; done) | (unfold fr_S_keeps; omega))
  have c1_250_264 : g1 250 264 = g 250 264 := F1 250 264 (by first | (simp [fr_S_keeps]; done) | (unfold fr_S_keeps; omega))
  have c1_250_265 : g1 250 265 = g 250 265 := F1 250 265 (by first | (simp [fr_S_keeps]; done) | (unfold fr_S_keeps; omega))
  have Z1 : zP g1 := zP_eq (fun a i hc => F1 a i (zpf_S_keeps hc)) R21
  refine zi_pop (pc' := 1077) rfl rfl rfl ?_
  refine zi_aload_n (pc' := 1078) rfl rfl rfl ?_
  refine zi_aload_n (pc' := 1079) rfl rfl rfl ?_
  refine zi_iload_n (pc' := 1080) rfl rfl rfl ?_
  refine zi_iconst (pc' := 1081) rfl rfl ?_
  refine zi_iadd (pc' := 1082) rfl rfl ?_
  refine zi_xald (pc' := 1083) rfl rfl hL ⟨by omega, by omega⟩ ?_
  refine zi_callV (d' := 4) (as := [_]) (pc' := 1086) rfl rfl rfl rfl (by decide) (s_M_keeps (Q := fun v g' => zk_I g' ∧ zk_fr fr_M_keeps g1 g') (Nat.le_refl _) (k_M_keeps I1 (zw_r _ _) (fun v g' I' F' h0 h1 h2 h3 => ⟨I', F'⟩))) (zi_ki (fun v2 g2 h2 => ?_))
  obtain ⟨I2, F2⟩ := h2
  have c2_0_2 : g2 0 2 = g1 0 2 := F2 0 2 (by first | (simp [fr_M_keeps]; done) | (unfold fr_M_keeps; omega))
  have c2_0_8 : g2 0 8 = g1 0 8 := F2 0 8 (by first | (simp [fr_M_keeps]; done) | (unfold fr_M_keeps; omega))
  have c2_2_8 : g2 2 8 = g1 2 8 := F2 2 8 (by first | (simp [fr_M_keeps]; done) | (unfold fr_M_keeps; omega))
  have c2_2_11 : g2 2 11 = g1 2 11 := F2 2 11 (by first | (simp [fr_M_keeps]; done) | (unfold fr_M_keeps; omega))
  have c2_47_8 : g2 47 8 = g1 47 8 := F2 47 8 (by first | (simp [fr_M_keeps]; done) | (unfold fr_M_keeps; omega))
  have c2_47_11 : g2 47 11 = g1 47 11 := F2 47 11 (by first | (simp [fr_M_keeps]; done) | (unfold fr_M_keeps; omega))
  have c2_214_6 : g2 214 6 = g1 214 6 := F2 214 6 (by first | (simp [fr_M_keeps]; done) | (unfold fr_M_keeps; omega))
  have c2_214_7 : g2 214 7 = g1 214 7 := F2 214 7 (by first | (simp [fr_M_keeps]; done) | (unfold fr_M_keeps; omega))
  have c2_214_13 : g2 214 13 = g1 214 13 := F2 214 13 (by first | (simp [fr_M_keeps]; done) | (unfold fr_M_keeps; omega))
  have c2_214_62 : g2 214 62 = g1 214 62 := F2 214 62 (by first | (simp [fr_M_keeps]; done) | (unfold fr_M_keeps; omega))
  have c2_250_264 : g2 250 264 = g1 250 264 := F2 250 264 (by first | (simp [fr_M_keeps]; done) | (unfold fr_M_keeps; omega))
  have c2_250_265 : g2 250 265 = g1 250 265 := F2 250 265 (by first | (simp [fr_M_keeps]; done) | (unfold fr_M_keeps; omega))
  have Z2 : zP g2 := zP_eq (fun a i hc => F2 a i (zpf_M_keeps hc)) Z1
  refine zi_pop (pc' := 1087) rfl rfl rfl ?_
  refine zi_goto (x := 1356) rfl ?_
  exact k _ ⟨I2, (by rw [c2_0_2, c1_0_2, c2_214_62, c1_214_62]; exact R0), (by rw [c2_0_8, c1_0_8, c2_214_13, c1_214_13]; exact R1), (funext fun k => by rw [F2 190 k (by first | (simp [fr_M_keeps]; done) | (unfold fr_M_keeps; omega)), F1 190 k (by first | (simp [fr_S_keeps]; done) | (unfold fr_S_keeps; omega)), F2 222 k (by first | (simp [fr_M_keeps]; done) | (unfold fr_M_keeps; omega)), F1 222 k (by first | (simp [fr_S_keeps]; done) | (unfold fr_S_keeps; omega))]; exact congrFun R2 k), (by rw [c2_2_8, c1_2_8, c2_214_6, c1_214_6]; exact R3), (fun q => by rw [c2_47_8, c1_47_8, c2_250_264, c1_250_264]; exact R4 (by rw [c2_0_2, c1_0_2] at q; exact q)), (by rw [c2_2_11, c1_2_11, c2_214_7, c1_214_7]; exact R5), (fun q => by rw [c2_47_11, c1_47_11, c2_250_265, c1_250_265]; exact R6 (by rw [c2_0_2, c1_0_2] at q; exact q)), (zXw_n R7 (by rw [F2 19 5 (by first | (simp [fr_M_keeps]; done) | (unfold fr_M_keeps; omega)), F1 19 5 (by first | (simp [fr_S_keeps]; done) | (unfold fr_S_keeps; omega))]) (by rw [F2 214 37 (by first | (simp [fr_M_keeps]; done) | (unfold fr_M_keeps; omega)), F1 214 37 (by first | (simp [fr_S_keeps]; done) | (unfold fr_S_keeps; omega))]) (fun k => by rw [F2 30 k (by first | (simp [fr_M_keeps]; done) | (unfold fr_M_keeps; omega)), F1 30 k (by first | (simp [fr_S_keeps]; done) | (unfold fr_S_keeps; omega))]) (fun k => by rw [F2 31 k (by first | (simp [fr_M_keeps]; done) | (unfold fr_M_keeps; omega)), F1 31 k (by first | (simp [fr_S_keeps]; done) | (unfold fr_S_keeps; omega))]) (fun k _ => by rw [F2 233 k (by first | (simp [fr_M_keeps]; done) | (unfold fr_M_keeps; omega)), F1 233 k (by first | (simp [fr_S_keeps]; done) | (unfold fr_S_keeps; omega))]) (show 0 ≤ g 19 5 ∧ g 19 5 ≤ 16 from I.1 19 5).2), (fun q => zXwk_n (R8 (by omega)) (by rw [F2 64 5 (by first | (simp [fr_M_keeps]; done) | (unfold fr_M_keeps; omega)), F1 64 5 (by first | (simp [fr_S_keeps]; done) | (unfold fr_S_keeps; omega))]) (fun k => by rw [F2 75 k (by first | (simp [fr_M_keeps]; done) | (unfold fr_M_keeps; omega)), F1 75 k (by first | (simp [fr_S_keeps]; done) | (unfold fr_S_keeps; omega))]) (fun k => by rw [F2 76 k (by first | (simp [fr_M_keeps]; done) | (unfold fr_M_keeps; omega)), F1 76 k (by first | (simp [fr_S_keeps]; done) | (unfold fr_S_keeps; omega))]) (fun k => by rw [F2 250 k (by first | (simp [fr_M_keeps]; done) | (unfold fr_M_keeps; omega)), F1 250 k (by first | (simp [fr_S_keeps]; done) | (unfold fr_S_keeps; omega))])), (zXg_n R9 (by rw [F2 19 2 (by first | (simp [fr_M_keeps]; done) | (unfold fr_M_keeps; omega)), F1 19 2 (by first | (simp [fr_S_keeps]; done) | (unfold fr_S_keeps; omega))]) (by rw [F2 214 35 (by first | (simp [fr_M_keeps]; done) | (unfold fr_M_keeps; omega)), F1 214 35 (by first | (simp [fr_S_keeps]; done) | (unfold fr_S_keeps; omega))]) (fun k => by rw [F2 29 k (by first | (simp [fr_M_keeps]; done) | (unfold fr_M_keeps; omega)), F1 29 k (by first | (simp [fr_S_keeps]; done) | (unfold fr_S_keeps; omega))]) (fun k _ => by rw [F2 232 k (by first | (simp [fr_M_keeps]; done) | (unfold fr_M_keeps; omega)), F1 232 k (by first | (simp [fr_S_keeps]; done) | (unfold fr_S_keeps; omega))])), (fun q => zXgk_n (R10 (by omega)) (by rw [F2 64 2 (by first | (simp [fr_M_keeps]; done) | (unfold fr_M_keeps; omega)), F1 64 2 (by first | (simp [fr_S_keeps]; done) | (unfold fr_S_keeps; omega))]) (fun k => by rw [F2 74 k (by first | (simp [fr_M_keeps]; done) | (unfold fr_M_keeps; omega)), F1 74 k (by first | (simp [fr_S_keeps]; done) | (unfold fr_S_keeps; omega))]) (fun k => by rw [F2 250 k (by first | (simp [fr_M_keeps]; done) | (unfold fr_M_keeps; omega)), F1 250 k (by first | (simp [fr_S_keeps]; done) | (unfold fr_S_keeps; omega))])), (zBD_n R11 (fun a i h => (F2 a i (zbg_M_keepsFt h)).trans (F1 a i (zbg_S_keepsFt h))) (fun a i h => (F2 a i (zbg_M_keepsFc h)).trans (F1 a i (zbg_S_keepsFc h)))), (zRw_n (fun k => by rw [F2 5 k (by first | (simp [fr_M_keeps]; done) | (unfold fr_M_keeps; omega)), F1 5 k (by first | (simp [fr_S_keeps]; done) | (unfold fr_S_keeps; omega))]) (fun k => by rw [F2 220 k (by first | (simp [fr_M_keeps]; done) | (unfold fr_M_keeps; omega)), F1 220 k (by first | (simp [fr_S_keeps]; done) | (unfold fr_S_keeps; omega))]) R12), (fun q => zRw_nk (fun k => by rw [F2 50 k (by first | (simp [fr_M_keeps]; done) | (unfold fr_M_keeps; omega)), F1 50 k (by first | (simp [fr_S_keeps]; done) | (unfold fr_S_keeps; omega))]) (fun k => by rw [F2 250 k (by first | (simp [fr_M_keeps]; done) | (unfold fr_M_keeps; omega)), F1 250 k (by first | (simp [fr_S_keeps]; done) | (unfold fr_S_keeps; omega))]) (R13 (by omega))), (zRw_n (fun k => by rw [F2 3 k (by first | (simp [fr_M_keeps]; done) | (unfold fr_M_keeps; omega)), F1 3 k (by first | (simp [fr_S_keeps]; done) | (unfold fr_S_keeps; omega))]) (fun k => by rw [F2 218 k (by first | (simp [fr_M_keeps]; done) | (unfold fr_M_keeps; omega)), F1 218 k (by first | (simp [fr_S_keeps]; done) | (unfold fr_S_keeps; omega))]) R14), (fun q => zRw_nk (fun k => by rw [F2 48 k (by first | (simp [fr_M_keeps]; done) | (unfold fr_M_keeps; omega)), F1 48 k (by first | (simp [fr_S_keeps]; done) | (unfold fr_S_keeps; omega))]) (fun k => by rw [F2 250 k (by first | (simp [fr_M_keeps]; done) | (unfold fr_M_keeps; omega)), F1 250 k (by first | (simp [fr_S_keeps]; done) | (unfold fr_S_keeps; omega))]) (R15 (by omega))), (zRw_n (fun k => by rw [F2 4 k (by first | (simp [fr_M_keeps]; done) | (unfold fr_M_keeps; omega)), F1 4 k (by first | (simp [fr_S_keeps]; done) | (unfold fr_S_keeps; omega))]) (fun k => by rw [F2 219 k (by first | (simp [fr_M_keeps]; done) | (unfold fr_M_keeps; omega)), F1 219 k (by first | (simp [fr_S_keeps]; done) | (unfold fr_S_keeps; omega))]) R16), (fun q => zRw_nk (fun k => by rw [F2 49 k (by first | (simp [fr_M_keeps]; done) | (unfold fr_M_keeps; omega)), F1 49 k (by first | (simp [fr_S_keeps]; done) | (unfold fr_S_keeps; omega))]) (fun k => by rw [F2 250 k (by first | (simp [fr_M_keeps]; done) | (unfold fr_M_keeps; omega)), F1 250 k (by first | (simp [fr_S_keeps]; done) | (unfold fr_S_keeps; omega))]) (R17 (by omega))), (zLW_n R18 (show 0 ≤ g 224 0 ∧ g 224 0 ≤ 16 from I.1 224 0).2 (fun a i h => (F2 a i (zbg_M_keepsFlw h)).trans (F1 a i (zbg_S_keepsFlw h)))), (fun q => zLWk_n (R19 (by omega)) (fun a i h => (F2 a i (zbg_M_keepsFlk h)).trans (F1 a i (zbg_S_keepsFlk h)))), (zFD_n R20 (fun a i h => (F2 a i (zbg_M_keepsFe h)).trans (F1 a i (zbg_S_keepsFe h)))), Z2⟩
theorem zpf_M_surmise {a : Nat} {i : Int} (hc : zPc a i) : ¬ fr_M_surmise a i := fun w => by
  have ha := zPc_le hc
  unfold fr_M_surmise at w
  clear hc
  omega
theorem zbg_M_surmiseFt {a : Nat} {i : Int} (h : zFt a i) : ¬ fr_M_surmise a i := fun w => by
  unfold fr_M_surmise at w
  unfold zFt at h
  omega
theorem zbg_M_surmiseFc {a : Nat} {i : Int} (h : zFc a i) : ¬ fr_M_surmise a i := fun w => by
  unfold fr_M_surmise at w
  unfold zFc at h
  omega
theorem zbg_M_surmiseFlw {a : Nat} {i : Int} (h : zFlw a i) : ¬ fr_M_surmise a i := fun w => by
  unfold fr_M_surmise at w
  unfold zFlw at h
  omega
theorem zbg_M_surmiseFlk {a : Nat} {i : Int} (h : zFlk a i) : ¬ fr_M_surmise a i := fun w => by
  unfold fr_M_surmise at w
  unfold zFlk at h
  omega
theorem zbg_M_surmiseFe {a : Nat} {i : Int} (h : zFe a i) : ¬ fr_M_surmise a i := fun w => by
  unfold fr_M_surmise at w
  unfold zFe at h
  omega
set_option maxRecDepth 100000 in
set_option maxHeartbeats 4000000 in
theorem zw_c28 {E : sx_E} {i : Int} {g : zi_M} (hL : sx_Ln E ≤ 3072) (h0 : 0 ≤ i) (h6 : i + 6 ≤ ((sx_Ln E : Nat) : Int)) (R : zw_R g) (k : ∀ g' : zi_M, zw_R g' → zi_W E 420 326 1356 [some (.ref 1000000000), some (.ref 0), some (.ref 214), some (zi_i i)] [] g' zw_Q) : zi_W E 420 326 1090 [some (.ref 1000000000), some (.ref 0), some (.ref 214), some (zi_i i)] [] g zw_Q := by
  obtain ⟨I, R0, R1, R2, R3, R4, R5, R6, R7, R8, R9, R10, R11, R12, R13, R14, R15, R16, R17, R18, R19, R20, R21⟩ := R
  refine zi_aload_n (pc' := 1091) rfl rfl rfl ?_
  refine zi_aload_n (pc' := 1092) rfl rfl rfl ?_
  refine zi_iload_n (pc' := 1093) rfl rfl rfl ?_
  refine zi_iconst (pc' := 1094) rfl rfl ?_
  refine zi_iadd (pc' := 1095) rfl rfl ?_
  refine zi_xald (pc' := 1096) rfl rfl hL ⟨by omega, by omega⟩ ?_
  refine zi_aload_n (pc' := 1097) rfl rfl rfl ?_
  refine zi_iload_n (pc' := 1098) rfl rfl rfl ?_
  refine zi_iconst (pc' := 1099) rfl rfl ?_
  refine zi_iadd (pc' := 1100) rfl rfl ?_
  refine zi_xald (pc' := 1101) rfl rfl hL ⟨by omega, by omega⟩ ?_
  refine zi_aload_n (pc' := 1102) rfl rfl rfl ?_
  refine zi_iload_n (pc' := 1103) rfl rfl rfl ?_
  refine zi_iconst (pc' := 1104) rfl rfl ?_
  refine zi_iadd (pc' := 1105) rfl rfl ?_
  refine zi_xald (pc' := 1106) rfl rfl hL ⟨by omega, by omega⟩ ?_
  refine zi_callV (d' := 11) (as := [_, _, _]) (pc' := 1109) rfl rfl rfl rfl (by decide) (s_S_surmise (Q := fun v g' => g' = g) (Nat.le_refl _) (k_S_surmise I (zw_r _ _) (zw_r _ _) (zw_r _ _) (by intros; rfl))) (zi_ki (fun v1 g1 h1 => ?_))
  have E1 : g1 = g := h1
  rw [E1]
  refine zi_pop (pc' := 1110) rfl rfl rfl ?_
  refine zi_aload_n (pc' := 1111) rfl rfl rfl ?_
  refine zi_aload_n (pc' := 1112) rfl rfl rfl ?_
  refine zi_iload_n (pc' := 1113) rfl rfl rfl ?_
  refine zi_iconst (pc' := 1114) rfl rfl ?_
  refine zi_iadd (pc' := 1115) rfl rfl ?_
  refine zi_xald (pc' := 1116) rfl rfl hL ⟨by omega, by omega⟩ ?_
  refine zi_aload_n (pc' := 1117) rfl rfl rfl ?_
  refine zi_iload_n (pc' := 1118) rfl rfl rfl ?_
  refine zi_iconst (pc' := 1119) rfl rfl ?_
  refine zi_iadd (pc' := 1120) rfl rfl ?_
  refine zi_xald (pc' := 1121) rfl rfl hL ⟨by omega, by omega⟩ ?_
  refine zi_aload_n (pc' := 1122) rfl rfl rfl ?_
  refine zi_iload_n (pc' := 1123) rfl rfl rfl ?_
  refine zi_iconst (pc' := 1124) rfl rfl ?_
  refine zi_iadd (pc' := 1125) rfl rfl ?_
  refine zi_xald (pc' := 1126) rfl rfl hL ⟨by omega, by omega⟩ ?_
  refine zi_callV (d' := 3) (as := [_, _, _]) (pc' := 1129) rfl rfl rfl rfl (by decide) (s_M_surmise (Q := fun v g' => zk_I g' ∧ zk_fr fr_M_surmise g g') (Nat.le_refl _) (k_M_surmise I (zw_r _ _) (zw_r _ _) (zw_r _ _) (fun v g' I' F' h0 h1 => ⟨I', F'⟩))) (zi_ki (fun v2 g2 h2 => ?_))
  obtain ⟨I2, F2⟩ := h2
  have c2_0_2 : g2 0 2 = g 0 2 := F2 0 2 (by first | (simp [fr_M_surmise]; done) | (unfold fr_M_surmise; omega))
  have c2_0_8 : g2 0 8 = g 0 8 := F2 0 8 (by first | (simp [fr_M_surmise]; done) | (unfold fr_M_surmise; omega))
  have c2_2_8 : g2 2 8 = g 2 8 := F2 2 8 (by first | (simp [fr_M_surmise]; done) | (unfold fr_M_surmise; omega))
  have c2_2_11 : g2 2 11 = g 2 11 := F2 2 11 (by first | (simp [fr_M_surmise]; done) | (unfold fr_M_surmise; omega))
  have c2_47_8 : g2 47 8 = g 47 8 := F2 47 8 (by first | (simp [fr_M_surmise]; done) | (unfold fr_M_surmise; omega))
  have c2_47_11 : g2 47 11 = g 47 11 := F2 47 11 (by first | (simp [fr_M_surmise]; done) | (unfold fr_M_surmise; omega))
  have c2_214_6 : g2 214 6 = g 214 6 := F2 214 6 (by first | (simp [fr_M_surmise]; done) | (unfold fr_M_surmise; omega))
  have c2_214_7 : g2 214 7 = g 214 7 := F2 214 7 (by first | (simp [fr_M_surmise]; done) | (unfold fr_M_surmise; omega))
  have c2_214_13 : g2 214 13 = g 214 13 := F2 214 13 (by first | (simp [fr_M_surmise]; done) | (unfold fr_M_surmise; omega))
  have c2_214_62 : g2 214 62 = g 214 62 := F2 214 62 (by first | (simp [fr_M_surmise]; done) | (unfold fr_M_surmise; omega))
  have c2_250_264 : g2 250 264 = g 250 264 := F2 250 264 (by first | (simp [fr_M_surmise]; done) | (unfold fr_M_surmise; omega))
  have c2_250_265 : g2 250 265 = g 250 265 := F2 250 265 (by first | (simp [fr_M_surmise]; done) | (unfold fr_M_surmise; omega))
  have Z2 : zP g2 := zP_eq (fun a i hc => F2 a i (zpf_M_surmise hc)) R21
  refine zi_pop (pc' := 1130) rfl rfl rfl ?_
  refine zi_goto (x := 1356) rfl ?_
  exact k _ ⟨I2, (by rw [c2_0_2, c2_214_62]; exact R0), (by rw [c2_0_8, c2_214_13]; exact R1), (funext fun k => by rw [F2 190 k (by first | (simp [fr_M_surmise]; done) | (unfold fr_M_surmise; omega)), F2 222 k (by first | (simp [fr_M_surmise]; done) | (unfold fr_M_surmise; omega))]; exact congrFun R2 k), (by rw [c2_2_8, c2_214_6]; exact R3), (fun q => by rw [c2_47_8, c2_250_264]; exact R4 (by rw [c2_0_2] at q; exact q)), (by rw [c2_2_11, c2_214_7]; exact R5), (fun q => by rw [c2_47_11, c2_250_265]; exact R6 (by rw [c2_0_2] at q; exact q)), (zXw_n R7 (by rw [F2 19 5 (by first | (simp [fr_M_surmise]; done) | (unfold fr_M_surmise; omega))]) (by rw [F2 214 37 (by first | (simp [fr_M_surmise]; done) | (unfold fr_M_surmise; omega))]) (fun k => by rw [F2 30 k (by first | (simp [fr_M_surmise]; done) | (unfold fr_M_surmise; omega))]) (fun k => by rw [F2 31 k (by first | (simp [fr_M_surmise]; done) | (unfold fr_M_surmise; omega))]) (fun k _ => by rw [F2 233 k (by first | (simp [fr_M_surmise]; done) | (unfold fr_M_surmise; omega))]) (show 0 ≤ g 19 5 ∧ g 19 5 ≤ 16 from I.1 19 5).2), (fun q => zXwk_n (R8 (by omega)) (by rw [F2 64 5 (by first | (simp [fr_M_surmise]; done) | (unfold fr_M_surmise; omega))]) (fun k => by rw [F2 75 k (by first | (simp [fr_M_surmise]; done) | (unfold fr_M_surmise; omega))]) (fun k => by rw [F2 76 k (by first | (simp [fr_M_surmise]; done) | (unfold fr_M_surmise; omega))]) (fun k => by rw [F2 250 k (by first | (simp [fr_M_surmise]; done) | (unfold fr_M_surmise; omega))])), (zXg_n R9 (by rw [F2 19 2 (by first | (simp [fr_M_surmise]; done) | (unfold fr_M_surmise; omega))]) (by rw [F2 214 35 (by first | (simp [fr_M_surmise]; done) | (unfold fr_M_surmise; omega))]) (fun k => by rw [F2 29 k (by first | (simp [fr_M_surmise]; done) | (unfold fr_M_surmise; omega))]) (fun k _ => by rw [F2 232 k (by first | (simp [fr_M_surmise]; done) | (unfold fr_M_surmise; omega))])), (fun q => zXgk_n (R10 (by omega)) (by rw [F2 64 2 (by first | (simp [fr_M_surmise]; done) | (unfold fr_M_surmise; omega))]) (fun k => by rw [F2 74 k (by first | (simp [fr_M_surmise]; done) | (unfold fr_M_surmise; omega))]) (fun k => by rw [F2 250 k (by first | (simp [fr_M_surmise]; done) | (unfold fr_M_surmise; omega))])), (zBD_n R11 (fun a i h => (F2 a i (zbg_M_surmiseFt h))) (fun a i h => (F2 a i (zbg_M_surmiseFc h)))), (zRw_n (fun k => by rw [F2 5 k (by first | (simp [fr_M_surmise]; done) | (unfold fr_M_surmise; omega))]) (fun k => by rw [F2 220 k (by first | (simp [fr_M_surmise]; done) | (unfold fr_M_surmise; omega))]) R12), (fun q => zRw_nk (fun k => by rw [F2 50 k (by first | (simp [fr_M_surmise]; done) | (unfold fr_M_surmise; omega))]) (fun k => by rw [F2 250 k (by first | (simp [fr_M_surmise]; done) | (unfold fr_M_surmise; omega))]) (R13 (by omega))), (zRw_n (fun k => by rw [F2 3 k (by first | (simp [fr_M_surmise]; done) | (unfold fr_M_surmise; omega))]) (fun k => by rw [F2 218 k (by first | (simp [fr_M_surmise]; done) | (unfold fr_M_surmise; omega))]) R14), (fun q => zRw_nk (fun k => by rw [F2 48 k (by first | (simp [fr_M_surmise]; done) | (unfold fr_M_surmise; omega))]) (fun k => by rw [F2 250 k (by first | (simp [fr_M_surmise]; done) | (unfold fr_M_surmise; omega))]) (R15 (by omega))), (zRw_n (fun k => by rw [F2 4 k (by first | (simp [fr_M_surmise]; done) | (unfold fr_M_surmise; omega))]) (fun k => by rw [F2 219 k (by first | (simp [fr_M_surmise]; done) | (unfold fr_M_surmise; omega))]) R16), (fun q => zRw_nk (fun k => by rw [F2 49 k (by first | (simp [fr_M_surmise]; done) | (unfold fr_M_surmise; omega))]) (fun k => by rw [F2 250 k (by first | (simp [fr_M_surmise]; done) | (unfold fr_M_surmise; omega))]) (R17 (by omega))), (zLW_n R18 (show 0 ≤ g 224 0 ∧ g 224 0 ≤ 16 from I.1 224 0).2 (fun a i h => (F2 a i (zbg_M_surmiseFlw h)))), (fun q => zLWk_n (R19 (by omega)) (fun a i h => (F2 a i (zbg_M_surmiseFlk h)))), (zFD_n R20 (fun a i h => (F2 a i (zbg_M_surmiseFe h)))), Z2⟩
theorem zpf_S_drought {a : Nat} {i : Int} (hc : zPc a i) : ¬ fr_S_drought a i := fun w => by
  unfold fr_S_drought at w
  unfold zPc at hc
  omega
theorem zpf_M_drought {a : Nat} {i : Int} (hc : zPc a i) : ¬ fr_M_drought a i := fun w => by
  have ha := zPc_le hc
  unfold fr_M_drought at w
  clear hc
  omega
theorem zbg_M_droughtFt {a : Nat} {i : Int} (h : zFt a i) : ¬ fr_M_drought a i := fun w => by
  unfold fr_M_drought at w
  unfold zFt at h
  omega
theorem zbg_S_droughtFt {a : Nat} {i : Int} (h : zFt a i) : ¬ fr_S_drought a i := fun w => by
  unfold fr_S_drought at w
  unfold zFt at h
  omega
theorem zbg_M_droughtFc {a : Nat} {i : Int} (h : zFc a i) : ¬ fr_M_drought a i := fun w => by
  unfold fr_M_drought at w
  unfold zFc at h
  omega
theorem zbg_S_droughtFc {a : Nat} {i : Int} (h : zFc a i) : ¬ fr_S_drought a i := fun w => by
  unfold fr_S_drought at w
  unfold zFc at h
  omega
theorem zbg_M_droughtFlw {a : Nat} {i : Int} (h : zFlw a i) : ¬ fr_M_drought a i := fun w => by
  unfold fr_M_drought at w
  unfold zFlw at h
  omega
theorem zbg_S_droughtFlw {a : Nat} {i : Int} (h : zFlw a i) : ¬ fr_S_drought a i := fun w => by
  unfold fr_S_drought at w
  unfold zFlw at h
  omega
theorem zbg_M_droughtFlk {a : Nat} {i : Int} (h : zFlk a i) : ¬ fr_M_drought a i := fun w => by
  unfold fr_M_drought at w
  unfold zFlk at h
  omega
theorem zbg_S_droughtFlk {a : Nat} {i : Int} (h : zFlk a i) : ¬ fr_S_drought a i := fun w => by
  unfold fr_S_drought at w
  unfold zFlk at h
  omega
theorem zbg_M_droughtFe {a : Nat} {i : Int} (h : zFe a i) : ¬ fr_M_drought a i := fun w => by
  unfold fr_M_drought at w
  unfold zFe at h
  omega
theorem zbg_S_droughtFe {a : Nat} {i : Int} (h : zFe a i) : ¬ fr_S_drought a i := fun w => by
  unfold fr_S_drought at w
  unfold zFe at h
  omega
set_option maxRecDepth 100000 in
set_option maxHeartbeats 4000000 in
theorem zw_c29 {E : sx_E} {i : Int} {g : zi_M} (hL : sx_Ln E ≤ 3072) (h0 : 0 ≤ i) (h6 : i + 6 ≤ ((sx_Ln E : Nat) : Int)) (R : zw_R g) (k : ∀ g' : zi_M, zw_R g' → zi_W E 420 326 1356 [some (.ref 1000000000), some (.ref 0), some (.ref 214), some (zi_i i)] [] g' zw_Q) : zi_W E 420 326 1133 [some (.ref 1000000000), some (.ref 0), some (.ref 214), some (zi_i i)] [] g zw_Q := by
  obtain ⟨I, R0, R1, R2, R3, R4, R5, R6, R7, R8, R9, R10, R11, R12, R13, R14, R15, R16, R17, R18, R19, R20, R21⟩ := R
  refine zi_aload_n (pc' := 1134) rfl rfl rfl ?_
  refine zi_aload_n (pc' := 1135) rfl rfl rfl ?_
  refine zi_iload_n (pc' := 1136) rfl rfl rfl ?_
  refine zi_iconst (pc' := 1137) rfl rfl ?_
  refine zi_iadd (pc' := 1138) rfl rfl ?_
  refine zi_xald (pc' := 1139) rfl rfl hL ⟨by omega, by omega⟩ ?_
  refine zi_callV (d' := 1) (as := [_]) (pc' := 1142) rfl rfl rfl rfl (by decide) (s_S_drought (Q := fun v g' => zk_I g' ∧ zk_fr fr_S_drought g g') (Nat.le_refl _) (k_S_drought I (zw_r _ _) (fun v g' I' F' h0 h1 h2 h3 h4 => ⟨I', F'⟩))) (zi_ki (fun v1 g1 h1 => ?_))
  obtain ⟨I1, F1⟩ := h1
  have c1_0_2 : g1 0 2 = g 0 2 := F1 0 2 (by first | (simp [fr_S_drought]; done) | (unfold fr_S_drought; omega))
  have c1_0_8 : g1 0 8 = g 0 8 := F1 0 8 (by first | (simp [fr_S_drought]; done) | (unfold fr_S_drought; omega))
  have c1_2_8 : g1 2 8 = g 2 8 := F1 2 8 (by first | (simp [fr_S_drought]; done) | (unfold fr_S_drought; omega))
  have c1_2_11 : g1 2 11 = g 2 11 := F1 2 11 (by first | (simp [fr_S_drought]; done) | (unfold fr_S_drought; omega))
  have c1_47_8 : g1 47 8 = g 47 8 := F1 47 8 (by first | (simp [fr_S_drought]; done) | (unfold fr_S_drought; omega))
  have c1_47_11 : g1 47 11 = g 47 11 := F1 47 11 (by first | (simp [fr_S_drought]; done) | (unfold fr_S_drought; omega))
  have c1_214_6 : g1 214 6 = g 214 6 := F1 214 6 (by first | (simp [fr_S_drought]; done) | (unfold fr_S_drought; omega))
  have c1_214_7 : g1 214 7 = g 214 7 := F1 214 7 (by first | (simp [fr_S_drought]; done) | (unfold fr_S_drought; omega))
  have c1_214_13 : g1 214 13 = g 214 13 := F1 214 13 (by first | (simp [fr_S_drought]; done) | (unfold fr_S_drought; omega))
  have c1_214_62 : g1 214 62 = g 214 62 := F1 214 62 (by first | (simp [fr_S_drought]; done) | (unfold fr_S_drought; omega))
  have c1_250_264 : g1 250 264 = g 250 264 := F1 250 264 (by first | (simp [fr_S_drought]; done) | (unfold fr_S_drought; omega))
  have c1_250_265 : g1 250 265 = g 250 265 := F1 250 265 (by first | (simp [fr_S_drought]; done) | (unfold fr_S_drought; omega))
  have Z1 : zP g1 := zP_eq (fun a i hc => F1 a i (zpf_S_drought hc)) R21
  refine zi_pop (pc' := 1143) rfl rfl rfl ?_
  refine zi_aload_n (pc' := 1144) rfl rfl rfl ?_
  refine zi_aload_n (pc' := 1145) rfl rfl rfl ?_
  refine zi_iload_n (pc' := 1146) rfl rfl rfl ?_
  refine zi_iconst (pc' := 1147) rfl rfl ?_
  refine zi_iadd (pc' := 1148) rfl rfl ?_
  refine zi_xald (pc' := 1149) rfl rfl hL ⟨by omega, by omega⟩ ?_
  refine zi_callV (d' := 2) (as := [_]) (pc' := 1152) rfl rfl rfl rfl (by decide) (s_M_drought (Q := fun v g' => zk_I g' ∧ zk_fr fr_M_drought g1 g') (Nat.le_refl _) (k_M_drought I1 (zw_r _ _) (fun v g' I' F' h0 h1 h2 h3 h4 => ⟨I', F'⟩))) (zi_ki (fun v2 g2 h2 => ?_))
  obtain ⟨I2, F2⟩ := h2
  have c2_0_2 : g2 0 2 = g1 0 2 := F2 0 2 (by first | (simp [fr_M_drought]; done) | (unfold fr_M_drought; omega))
  have c2_0_8 : g2 0 8 = g1 0 8 := F2 0 8 (by first | (simp [fr_M_drought]; done) | (unfold fr_M_drought; omega))
  have c2_2_8 : g2 2 8 = g1 2 8 := F2 2 8 (by first | (simp [fr_M_drought]; done) | (unfold fr_M_drought; omega))
  have c2_2_11 : g2 2 11 = g1 2 11 := F2 2 11 (by first | (simp [fr_M_drought]; done) | (unfold fr_M_drought; omega))
  have c2_47_8 : g2 47 8 = g1 47 8 := F2 47 8 (by first | (simp [fr_M_drought]; done) | (unfold fr_M_drought; omega))
  have c2_47_11 : g2 47 11 = g1 47 11 := F2 47 11 (by first | (simp [fr_M_drought]; done) | (unfold fr_M_drought; omega))
  have c2_214_6 : g2 214 6 = g1 214 6 := F2 214 6 (by first | (simp [fr_M_drought]; done) | (unfold fr_M_drought; omega))
  have c2_214_7 : g2 214 7 = g1 214 7 := F2 214 7 (by first | (simp [fr_M_drought]; done) | (unfold fr_M_drought; omega))
  have c2_214_13 : g2 214 13 = g1 214 13 := F2 214 13 (by first | (simp [fr_M_drought]; done) | (unfold fr_M_drought; omega))
  have c2_214_62 : g2 214 62 = g1 214 62 := F2 214 62 (by first | (simp [fr_M_drought]; done) | (unfold fr_M_drought; omega))
  have c2_250_264 : g2 250 264 = g1 250 264 := F2 250 264 (by first | (simp [fr_M_drought]; done) | (unfold fr_M_drought; omega))
  have c2_250_265 : g2 250 265 = g1 250 265 := F2 250 265 (by first | (simp [fr_M_drought]; done) | (unfold fr_M_drought; omega))
  have Z2 : zP g2 := zP_eq (fun a i hc => F2 a i (zpf_M_drought hc)) Z1
  refine zi_pop (pc' := 1153) rfl rfl rfl ?_
  refine zi_goto (x := 1356) rfl ?_
  exact k _ ⟨I2, (by rw [c2_0_2, c1_0_2, c2_214_62, c1_214_62]; exact R0), (by rw [c2_0_8, c1_0_8, c2_214_13, c1_214_13]; exact R1), (funext fun k => by rw [F2 190 k (by first | (simp [fr_M_drought]; done) | (unfold fr_M_drought; omega)), F1 190 k (by first | (simp [fr_S_drought]; done) | (unfold fr_S_drought; omega)), F2 222 k (by first | (simp [fr_M_drought]; done) | (unfold fr_M_drought; omega)), F1 222 k (by first | (simp [fr_S_drought]; done) | (unfold fr_S_drought; omega))]; exact congrFun R2 k), (by rw [c2_2_8, c1_2_8, c2_214_6, c1_214_6]; exact R3), (fun q => by rw [c2_47_8, c1_47_8, c2_250_264, c1_250_264]; exact R4 (by rw [c2_0_2, c1_0_2] at q; exact q)), (by rw [c2_2_11, c1_2_11, c2_214_7, c1_214_7]; exact R5), (fun q => by rw [c2_47_11, c1_47_11, c2_250_265, c1_250_265]; exact R6 (by rw [c2_0_2, c1_0_2] at q; exact q)), (zXw_n R7 (by rw [F2 19 5 (by first | (simp [fr_M_drought]; done) | (unfold fr_M_drought; omega)), F1 19 5 (by first | (simp [fr_S_drought]; done) | (unfold fr_S_drought; omega))]) (by rw [F2 214 37 (by first | (simp [fr_M_drought]; done) | (unfold fr_M_drought; omega)), F1 214 37 (by first | (simp [fr_S_drought]; done) | (unfold fr_S_drought; omega))]) (fun k => by rw [F2 30 k (by first | (simp [fr_M_drought]; done) | (unfold fr_M_drought; omega)), F1 30 k (by first | (simp [fr_S_drought]; done) | (unfold fr_S_drought; omega))]) (fun k => by rw [F2 31 k (by first | (simp [fr_M_drought]; done) | (unfold fr_M_drought; omega)), F1 31 k (by first | (simp [fr_S_drought]; done) | (unfold fr_S_drought; omega))]) (fun k _ => by rw [F2 233 k (by first | (simp [fr_M_drought]; done) | (unfold fr_M_drought; omega)), F1 233 k (by first | (simp [fr_S_drought]; done) | (unfold fr_S_drought; omega))]) (show 0 ≤ g 19 5 ∧ g 19 5 ≤ 16 from I.1 19 5).2), (fun q => zXwk_n (R8 (by omega)) (by rw [F2 64 5 (by first | (simp [fr_M_drought]; done) | (unfold fr_M_drought; omega)), F1 64 5 (by first | (simp [fr_S_drought]; done) | (unfold fr_S_drought; omega))]) (fun k => by rw [F2 75 k (by first | (simp [fr_M_drought]; done) | (unfold fr_M_drought; omega)), F1 75 k (by first | (simp [fr_S_drought]; done) | (unfold fr_S_drought; omega))]) (fun k => by rw [F2 76 k (by first | (simp [fr_M_drought]; done) | (unfold fr_M_drought; omega)), F1 76 k (by first | (simp [fr_S_drought]; done) | (unfold fr_S_drought; omega))]) (fun k => by rw [F2 250 k (by first | (simp [fr_M_drought]; done) | (unfold fr_M_drought; omega)), F1 250 k (by first | (simp [fr_S_drought]; done) | (unfold fr_S_drought; omega))])), (zXg_n R9 (by rw [F2 19 2 (by first | (simp [fr_M_drought]; done) | (unfold fr_M_drought; omega)), F1 19 2 (by first | (simp [fr_S_drought]; done) | (unfold fr_S_drought; omega))]) (by rw [F2 214 35 (by first | (simp [fr_M_drought]; done) | (unfold fr_M_drought; omega)), F1 214 35 (by first | (simp [fr_S_drought]; done) | (unfold fr_S_drought; omega))]) (fun k => by rw [F2 29 k (by first | (simp [fr_M_drought]; done) | (unfold fr_M_drought; omega)), F1 29 k (by first | (simp [fr_S_drought]; done) | (unfold fr_S_drought; omega))]) (fun k _ => by rw [F2 232 k (by first | (simp [fr_M_drought]; done) | (unfold fr_M_drought; omega)), F1 232 k (by first | (simp [fr_S_drought]; done) | (unfold fr_S_drought; omega))])), (fun q => zXgk_n (R10 (by omega)) (by rw [F2 64 2 (by first | (simp [fr_M_drought]; done) | (unfold fr_M_drought; omega)), F1 64 2 (by first | (simp [fr_S_drought]; done) | (unfold fr_S_drought; omega))]) (fun k => by rw [F2 74 k (by first | (simp [fr_M_drought]; done) | (unfold fr_M_drought; omega)), F1 74 k (by first | (simp [fr_S_drought]; done) | (unfold fr_S_drought; omega))]) (fun k => by rw [F2 250 k (by first | (simp [fr_M_drought]; done) | (unfold fr_M_drought; omega)), F1 250 k (by first | (simp [fr_S_drought]; done) | (unfold fr_S_drought; omega))])), (zBD_n R11 (fun a i h => (F2 a i (zbg_M_droughtFt h)).trans (F1 a i (zbg_S_droughtFt h))) (fun a i h => (F2 a i (zbg_M_droughtFc h)).trans (F1 a i (zbg_S_droughtFc h)))), (zRw_n (fun k => by rw [F2 5 k (by first | (simp [fr_M_drought]; done) | (unfold fr_M_drought; omega)), F1 5 k (by first | (simp [fr_S_drought]; done) | (unfold fr_S_drought; omega))]) (fun k => by rw [F2 220 k (by first | (simp [fr_M_drought]; done) | (unfold fr_M_drought; omega)), F1 220 k (by first | (simp [fr_S_drought]; done) | (unfold fr_S_drought; omega))]) R12), (fun q => zRw_nk (fun k => by rw [F2 50 k (by first | (simp [fr_M_drought]; done) | (unfold fr_M_drought; omega)), F1 50 k (by first | (simp [fr_S_drought]; done) | (unfold fr_S_drought; omega))]) (fun k => by rw [F2 250 k (by first | (simp [fr_M_drought]; done) | (unfold fr_M_drought; omega)), F1 250 k (by first | (simp [fr_S_drought]; done) | (unfold fr_S_drought; omega))]) (R13 (by omega))), (zRw_n (fun k => by rw [F2 3 k (by first | (simp [fr_M_drought]; done) | (unfold fr_M_drought; omega)), F1 3 k (by first | (simp [fr_S_drought]; done) | (unfold fr_S_drought; omega))]) (fun k => by rw [F2 218 k (by first | (simp [fr_M_drought]; done) | (unfold fr_M_drought; omega)), F1 218 k (by first | (simp [fr_S_drought]; done) | (unfold fr_S_drought; omega))]) R14), (fun q => zRw_nk (fun k => by rw [F2 48 k (by first | (simp [fr_M_drought]; done) | (unfold fr_M_drought; omega)), F1 48 k (by first | (simp [fr_S_drought]; done) | (unfold fr_S_drought; omega))]) (fun k => by rw [F2 250 k (by first | (simp [fr_M_drought]; done) | (unfold fr_M_drought; omega)), F1 250 k (by first | (simp [fr_S_drought]; done) | (unfold fr_S_drought; omega))]) (R15 (by omega))), (zRw_n (fun k => by rw [F2 4 k (by first | (simp [fr_M_drought]; done) | (unfold fr_M_drought; omega)), F1 4 k (by first | (simp [fr_S_drought]; done) | (unfold fr_S_drought; omega))]) (fun k => by rw [F2 219 k (by first | (simp [fr_M_drought]; done) | (unfold fr_M_drought; omega)), F1 219 k (by first | (simp [fr_S_drought]; done) | (unfold fr_S_drought; omega))]) R16), (fun q => zRw_nk (fun k => by rw [F2 49 k (by first | (simp [fr_M_drought]; done) | (unfold fr_M_drought; omega)), F1 49 k (by first | (simp [fr_S_drought]; done) | (unfold fr_S_drought; omega))]) (fun k => by rw [F2 250 k (by first | (simp [fr_M_drought]; done) | (unfold fr_M_drought; omega)), F1 250 k (by first | (simp [fr_S_drought]; done) | (unfold fr_S_drought; omega))]) (R17 (by omega))), (zLW_n R18 (show 0 ≤ g 224 0 ∧ g 224 0 ≤ 16 from I.1 224 0).2 (fun a i h => (F2 a i (zbg_M_droughtFlw h)).trans (F1 a i (zbg_S_droughtFlw h)))), (fun q => zLWk_n (R19 (by omega)) (fun a i h => (F2 a i (zbg_M_droughtFlk h)).trans (F1 a i (zbg_S_droughtFlk h)))), (zFD_n R20 (fun a i h => (F2 a i (zbg_M_droughtFe h)).trans (F1 a i (zbg_S_droughtFe h)))), Z2⟩
