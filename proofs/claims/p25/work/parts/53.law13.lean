-- by program (wip/gen/mklaw.py)
theorem zpf_M_longest {a : Nat} {i : Int} (hc : zPc a i) : ¬ fr_M_longest a i := fun w => by
  have ha := zPc_le hc
  unfold fr_M_longest at w
  clear hc
  omega
theorem zbg_M_longestFt {a : Nat} {i : Int} (h : zFt a i) : ¬ fr_M_longest a i := fun w => by
  unfold fr_M_longest at w
  unfold zFt at h
  omega
theorem zbg_M_longestFc {a : Nat} {i : Int} (h : zFc a i) : ¬ fr_M_longest a i := fun w => by
  unfold fr_M_longest at w
  unfold zFc at h
  omega
theorem zbg_M_longestFlw {a : Nat} {i : Int} (h : zFlw a i) : ¬ fr_M_longest a i := fun w => by
  unfold fr_M_longest at w
  unfold zFlw at h
  omega
theorem zbg_M_longestFlk {a : Nat} {i : Int} (h : zFlk a i) : ¬ fr_M_longest a i := fun w => by
  unfold fr_M_longest at w
  unfold zFlk at h
  omega
theorem zbg_M_longestFe {a : Nat} {i : Int} (h : zFe a i) : ¬ fr_M_longest a i := fun w => by
  unfold fr_M_longest at w
  unfold zFe at h
  omega
set_option maxRecDepth 100000 in
set_option maxHeartbeats 4000000 in
theorem zw_c30 {E : sx_E} {i : Int} {g : zi_M} (hL : sx_Ln E ≤ 3072) (h0 : 0 ≤ i) (h6 : i + 6 ≤ ((sx_Ln E : Nat) : Int)) (R : zw_R g) (k : ∀ g' : zi_M, zw_R g' → zi_W E 420 326 1356 [some (.ref 1000000000), some (.ref 0), some (.ref 214), some (zi_i i)] [] g' zw_Q) : zi_W E 420 326 1156 [some (.ref 1000000000), some (.ref 0), some (.ref 214), some (zi_i i)] [] g zw_Q := by
  obtain ⟨I, R0, R1, R2, R3, R4, R5, R6, R7, R8, R9, R10, R11, R12, R13, R14, R15, R16, R17, R18, R19, R20, R21⟩ := R
  refine zi_aload_n (pc' := 1157) rfl rfl rfl ?_
  refine zi_aload_n (pc' := 1158) rfl rfl rfl ?_
  refine zi_iload_n (pc' := 1159) rfl rfl rfl ?_
  refine zi_iconst (pc' := 1160) rfl rfl ?_
  refine zi_iadd (pc' := 1161) rfl rfl ?_
  refine zi_xald (pc' := 1162) rfl rfl hL ⟨by omega, by omega⟩ ?_
  refine zi_callV (d' := 3) (as := [_]) (pc' := 1165) rfl rfl rfl rfl (by decide) (s_S_longest (Q := fun v g' => g' = g) (Nat.le_refl _) (k_S_longest I (zw_r _ _) (by intros; rfl))) (zi_ki (fun v1 g1 h1 => ?_))
  have E1 : g1 = g := h1
  rw [E1]
  refine zi_pop (pc' := 1166) rfl rfl rfl ?_
  refine zi_aload_n (pc' := 1167) rfl rfl rfl ?_
  refine zi_aload_n (pc' := 1168) rfl rfl rfl ?_
  refine zi_iload_n (pc' := 1169) rfl rfl rfl ?_
  refine zi_iconst (pc' := 1170) rfl rfl ?_
  refine zi_iadd (pc' := 1171) rfl rfl ?_
  refine zi_xald (pc' := 1172) rfl rfl hL ⟨by omega, by omega⟩ ?_
  refine zi_callV (d' := 2) (as := [_]) (pc' := 1175) rfl rfl rfl rfl (by decide) (s_M_longest (Q := fun v g' => zk_I g' ∧ zk_fr fr_M_longest g g') (Nat.le_refl _) (k_M_longest I (zw_r _ _) (fun v g' I' F' h0 h1 h2 h3 => ⟨I', F'⟩))) (zi_ki (fun v2 g2 h2 => ?_))
  obtain ⟨I2, F2⟩ := h2
  have c2_0_2 : g2 0 2 = g 0 2 := F2 0 2 (by first | (simp [fr_M_longest]; done) | (unfold fr_M_longest; omega))
  have c2_0_8 : g2 0 8 = g 0 8 := F2 0 8 (by first | (simp [fr_M_longest]; done) | (unfold fr_M_longest; omega))
  have c2_2_8 : g2 2 8 = g 2 8 := F2 2 8 (by first | (simp [fr_M_longest]; done) | (unfold fr_M_longest; omega))
  have c2_2_11 : g2 2 11 = g 2 11 := F2 2 11 (by first | (simp [fr_M_longest]; done) | (unfold fr_M_longest; omega))
  have c2_47_8 : g2 47 8 = g 47 8 := F2 47 8 (by first | (simp [fr_M_longest]; done) | (unfold fr_M_longest; omega))
  have c2_47_11 : g2 47 11 = g 47 11 := F2 47 11 (by first | (simp [fr_M_longest]; done) | (unfold fr_M_longest; omega))
  have c2_214_6 : g2 214 6 = g 214 6 := F2 214 6 (by first | (simp [fr_M_longest]; done) | (unfold fr_M_longest; omega))
  have c2_214_7 : g2 214 7 = g 214 7 := F2 214 7 (by first | (simp [fr_M_longest]; done) | (unfold fr_M_longest; omega))
  have c2_214_13 : g2 214 13 = g 214 13 := F2 214 13 (by first | (simp [fr_M_longest]; done) | (unfold fr_M_longest; omega))
  have c2_214_62 : g2 214 62 = g 214 62 := F2 214 62 (by first | (simp [fr_M_longest]; done) | (unfold fr_M_longest; omega))
  have c2_250_264 : g2 250 264 = g 250 264 := F2 250 264 (by first | (simp [fr_M_longest]; done) | (unfold fr_M_longest; omega))
  have c2_250_265 : g2 250 265 = g 250 265 := F2 250 265 (by first | (simp [fr_M_longest]; done) | (unfold fr_M_longest; omega))
  have Z2 : zP g2 := zP_eq (fun a i hc => F2 a i (zpf_M_longest hc)) R21
  refine zi_pop (pc' := 1176) rfl rfl rfl ?_
  refine zi_goto (x := 1356) rfl ?_
  exact k _ ⟨I2, (by rw [c2_0_2, c2_214_62]; exact R0), (by rw [c2_0_8, c2_214_13]; exact R1), (funext fun k => by rw [F2 190 k (by first | (simp [fr_M_longest]; done) | (unfold fr_M_longest; omega)), F2 222 k (by first | (simp [fr_M_longest]; done) | (unfold fr_M_longest; omega))]; exact congrFun R2 k), (by rw [c2_2_8, c2_214_6]; exact R3), (fun q => by rw [c2_47_8, c2_250_264]; exact R4 (by rw [c2_0_2] at q; exact q)), (by rw [c2_2_11, c2_214_7]; exact R5), (fun q => by rw [c2_47_11, c2_250_265]; exact R6 (by rw [c2_0_2] at q; exact q)), (zXw_n R7 (by rw [F2 19 5 (by first | (simp [fr_M_longest]; done) | (unfold fr_M_longest; omega))]) (by rw [F2 214 37 (by first | (simp [fr_M_longest]; done) | (unfold fr_M_longest; omega))]) (fun k => by rw [F2 30 k (by first | (simp [fr_M_longest]; done) | (unfold fr_M_longest; omega))]) (fun k => by rw [F2 31 k (by first | (simp [fr_M_longest]; done) | (unfold fr_M_longest; omega))]) (fun k _ => by rw [F2 233 k (by first | (simp [fr_M_longest]; done) | (unfold fr_M_longest; omega))]) (show 0 ≤ g 19 5 ∧ g 19 5 ≤ 16 from I.1 19 5).2), (fun q => zXwk_n (R8 (by omega)) (by rw [F2 64 5 (by first | (simp [fr_M_longest]; done) | (unfold fr_M_longest; omega))]) (fun k => by rw [F2 75 k (by first | (simp [fr_M_longest]; done) | (unfold fr_M_longest; omega))]) (fun k => by rw [F2 76 k (by first | (simp [fr_M_longest]; done) | (unfold fr_M_longest; omega))]) (fun k => by rw [F2 250 k (by first | (simp [fr_M_longest]; done) | (unfold fr_M_longest; omega))])), (zXg_n R9 (by rw [F2 19 2 (by first | (simp [fr_M_longest]; done) | (unfold fr_M_longest; omega))]) (by rw [F2 214 35 (by first | (simp [fr_M_longest]; done) | (unfold fr_M_longest; omega))]) (fun k => by rw [F2 29 k (by first | (simp [fr_M_longest]; done) | (unfold fr_M_longest; omega))]) (fun k _ => by rw [F2 232 k (by first | (simp [fr_M_longest]; done) | (unfold fr_M_longest; omega))])), (fun q => zXgk_n (R10 (by omega)) (by rw [F2 64 2 (by first | (simp [fr_M_longest]; done) | (unfold fr_M_longest; omega))]) (fun k => by rw [F2 74 k (by first | (simp [fr_M_longest]; done) | (unfold fr_M_longest; omega))]) (fun k => by rw [F2 250 k (by first | (simp [fr_M_longest]; done) | (unfold fr_M_longest; omega))])), (zBD_n R11 (fun a i h => (F2 a i (zbg_M_longestFt h))) (fun a i h => (F2 a i (zbg_M_longestFc h)))), (zRw_n (fun k => by rw [F2 5 k (by first | (simp [fr_M_longest]; done) | (unfold fr_M_longest; omega))]) (fun k => by rw [F2 220 k (by first | (simp [fr_M_longest]; done) | (unfold fr_M_longest; omega))]) R12), (fun q => zRw_nk (fun k => by rw [F2 50 k (by first | (simp [fr_M_longest]; done) | (unfold fr_M_longest; omega))]) (fun k => by rw [F2 250 k (by first | (simp [fr_M_longest]; done) | (unfold fr_M_longest; omega))]) (R13 (by omega))), (zRw_n (fun k => by rw [F2 3 k (by first | (simp [fr_M_longest]; done) | (unfold fr_M_longest; omega))]) (fun k => by rw [F2 218 k (by first | (simp [fr_M_longest]; done) | (unfold fr_M_longest; omega))]) R14), (fun q => zRw_nk (fun k => by rw [F2 48 k (by first | (simp [fr_M_longest]; done) | (unfold fr_M_longest; omega))]) (fun k => by rw [F2 250 k (by first | (simp [fr_M_longest]; done) | (unfold fr_M_longest; omega))]) (R15 (by omega))), (zRw_n (fun k => by rw [F2 4 k (by first | (simp [fr_M_longest]; done) | (unfold fr_M_longest; omega))]) (fun k => by rw [F2 219 k (by first | (simp [fr_M_longest]; done) | (unfold fr_M_longest; omega))]) R16), (fun q => zRw_nk (fun k => by rw [F2 49 k (by first | (simp [fr_M_longest]; done) | (unfold fr_M_longest; omega))]) (fun k => by rw [F2 250 k (by first | (simp [fr_M_longest]; done) | (unfold fr_M_longest; omega))]) (R17 (by omega))), (zLW_n R18 (show 0 ≤ g 224 0 ∧ g 224 0 ≤ 16 from I.1 224 0).2 (fun a i h => (F2 a i (zbg_M_longestFlw h)))), (fun q => zLWk_n (R19 (by omega)) (fun a i h => (F2 a i (zbg_M_longestFlk h)))), (zFD_n R20 (fun a i h => (F2 a i (zbg_M_longestFe h)))), Z2⟩
theorem zpf_M_leans {a : Nat} {i : Int} (hc : zPc a i) : ¬ fr_M_leans a i := fun w => by
  have ha := zPc_le hc
  unfold fr_M_leans at w
  clear hc
  omega
theorem zbg_M_leansFt {a : Nat} {i : Int} (h : zFt a i) : ¬ fr_M_leans a i := fun w => by
  unfold fr_M_leans at w
  unfold zFt at h
  omega
theorem zbg_M_leansFc {a : Nat} {i : Int} (h : zFc a i) : ¬ fr_M_leans a i := fun w => by
  unfold fr_M_leans at w
  unfold zFc at h
  omega
theorem zbg_M_leansFlw {a : Nat} {i : Int} (h : zFlw a i) : ¬ fr_M_leans a i := fun w => by
  unfold fr_M_leans at w
  unfold zFlw at h
  omega
theorem zbg_M_leansFlk {a : Nat} {i : Int} (h : zFlk a i) : ¬ fr_M_leans a i := fun w => by
  unfold fr_M_leans at w
  unfold zFlk at h
  omega
theorem zbg_M_leansFe {a : Nat} {i : Int} (h : zFe a i) : ¬ fr_M_leans a i := fun w => by
  unfold fr_M_leans at w
  unfold zFe at h
  omega
set_option maxRecDepth 100000 in
set_option maxHeartbeats 4000000 in
theorem zw_c31 {E : sx_E} {i : Int} {g : zi_M} (hL : sx_Ln E ≤ 3072) (h0 : 0 ≤ i) (h6 : i + 6 ≤ ((sx_Ln E : Nat) : Int)) (R : zw_R g) (k : ∀ g' : zi_M, zw_R g' → zi_W E 420 326 1356 [some (.ref 1000000000), some (.ref 0), some (.ref 214), some (zi_i i)] [] g' zw_Q) : zi_W E 420 326 1179 [some (.ref 1000000000), some (.ref 0), some (.ref 214), some (zi_i i)] [] g zw_Q := by
  obtain ⟨I, R0, R1, R2, R3, R4, R5, R6, R7, R8, R9, R10, R11, R12, R13, R14, R15, R16, R17, R18, R19, R20, R21⟩ := R
  refine zi_aload_n (pc' := 1180) rfl rfl rfl ?_
  refine zi_aload_n (pc' := 1181) rfl rfl rfl ?_
  refine zi_iload_n (pc' := 1182) rfl rfl rfl ?_
  refine zi_iconst (pc' := 1183) rfl rfl ?_
  refine zi_iadd (pc' := 1184) rfl rfl ?_
  refine zi_xald (pc' := 1185) rfl rfl hL ⟨by omega, by omega⟩ ?_
  refine zi_callV (d' := 2) (as := [_]) (pc' := 1188) rfl rfl rfl rfl (by decide) (s_S_leans (Q := fun v g' => g' = g) (Nat.le_refl _) (k_S_leans I (zw_r _ _) (by intros; rfl))) (zi_ki (fun v1 g1 h1 => ?_))
  have E1 : g1 = g := h1
  rw [E1]
  refine zi_pop (pc' := 1189) rfl rfl rfl ?_
  refine zi_aload_n (pc' := 1190) rfl rfl rfl ?_
  refine zi_aload_n (pc' := 1191) rfl rfl rfl ?_
  refine zi_iload_n (pc' := 1192) rfl rfl rfl ?_
  refine zi_iconst (pc' := 1193) rfl rfl ?_
  refine zi_iadd (pc' := 1194) rfl rfl ?_
  refine zi_xald (pc' := 1195) rfl rfl hL ⟨by omega, by omega⟩ ?_
  refine zi_callV (d' := 2) (as := [_]) (pc' := 1198) rfl rfl rfl rfl (by decide) (s_M_leans (Q := fun v g' => zk_I g' ∧ zk_fr fr_M_leans g g') (Nat.le_refl _) (k_M_leans I (zw_r _ _) (fun v g' I' F' h0 h1 h2 => ⟨I', F'⟩))) (zi_ki (fun v2 g2 h2 => ?_))
  obtain ⟨I2, F2⟩ := h2
  have c2_0_2 : g2 0 2 = g 0 2 := F2 0 2 (by first | (simp [fr_M_leans]; done) | (unfold fr_M_leans; omega))
  have c2_0_8 : g2 0 8 = g 0 8 := F2 0 8 (by first | (simp [fr_M_leans]; done) | (unfold fr_M_leans; omega))
  have c2_2_8 : g2 2 8 = g 2 8 := F2 2 8 (by first | (simp [fr_M_leans]; done) | (unfold fr_M_leans; omega))
  have c2_2_11 : g2 2 11 = g 2 11 := F2 2 11 (by first | (simp [fr_M_leans]; done) | (unfold fr_M_leans; omega))
  have c2_47_8 : g2 47 8 = g 47 8 := F2 47 8 (by first | (simp [fr_M_leans]; done) | (unfold fr_M_leans; omega))
  have c2_47_11 : g2 47 11 = g 47 11 := F2 47 11 (by first | (simp [fr_M_leans]; done) | (unfold fr_M_leans; omega))
  have c2_214_6 : g2 214 6 = g 214 6 := F2 214 6 (by first | (simp [fr_M_leans]; done) | (unfold fr_M_leans; omega))
  have c2_214_7 : g2 214 7 = g 214 7 := F2 214 7 (by first | (simp [fr_M_leans]; done) | (unfold fr_M_leans; omega))
  have c2_214_13 : g2 214 13 = g 214 13 := F2 214 13 (by first | (simp [fr_M_leans]; done) | (unfold fr_M_leans; omega))
  have c2_214_62 : g2 214 62 = g 214 62 := F2 214 62 (by first | (simp [fr_M_leans]; done) | (unfold fr_M_leans; omega))
  have c2_250_264 : g2 250 264 = g 250 264 := F2 250 264 (by first | (simp [fr_M_leans]; done) | (unfold fr_M_leans; omega))
  have c2_250_265 : g2 250 265 = g 250 265 := F2 250 265 (by first | (simp [fr_M_leans]; done) | (unfold fr_M_leans; omega))
  have Z2 : zP g2 := zP_eq (fun a i hc => F2 a i (zpf_M_leans hc)) R21
  refine zi_pop (pc' := 1199) rfl rfl rfl ?_
  refine zi_goto (x := 1356) rfl ?_
  exact k _ ⟨I2, (by rw [c2_0_2, c2_214_62]; exact R0), (by rw [c2_0_8, c2_214_13]; exact R1), (funext fun k => by rw [F2 190 k (by first | (simp [fr_M_leans]; done) | (unfold fr_M_leans; omega)), F2 222 k (by first | (simp [fr_M_leans]; done) | (unfold fr_M_leans; omega))]; exact congrFun R2 k), (by rw [c2_2_8, c2_214_6]; exact R3), (fun q => by rw [c2_47_8, c2_250_264]; exact R4 (by rw [c2_0_2] at q; exact q)), (by rw [c2_2_11, c2_214_7]; exact R5), (fun q => by rw [c2_47_11, c2_250_265]; exact R6 (by rw [c2_0_2] at q; exact q)), (zXw_n R7 (by rw [F2 19 5 (by first | (simp [fr_M_leans]; done) | (unfold fr_M_leans; omega))]) (by rw [F2 214 37 (by first | (simp [fr_M_leans]; done) | (unfold fr_M_leans; omega))]) (fun k => by rw [F2 30 k (by first | (simp [fr_M_leans]; done) | (unfold fr_M_leans; omega))]) (fun k => by rw [F2 31 k (by first | (simp [fr_M_leans]; done) | (unfold fr_M_leans; omega))]) (fun k _ => by rw [F2 233 k (by first | (simp [fr_M_leans]; done) | (unfold fr_M_leans; omega))]) (show 0 ≤ g 19 5 ∧ g 19 5 ≤ 16 from I.1 19 5).2), (fun q => zXwk_n (R8 (by omega)) (by rw [F2 64 5 (by first | (simp [fr_M_leans]; done) | (unfold fr_M_leans; omega))]) (fun k => by rw [F2 75 k (by first | (simp [fr_M_leans]; done) | (unfold fr_M_leans; omega))]) (fun k => by rw [F2 76 k (by first | (simp [fr_M_leans]; done) | (unfold fr_M_leans; omega))]) (fun k => by rw [F2 250 k (by first | (simp [fr_M_leans]; done) | (unfold fr_M_leans; omega))])), (zXg_n R9 (by rw [F2 19 2 (by first | (simp [fr_M_leans]; done) | (unfold fr_M_leans; omega))]) (by rw [F2 214 35 (by first | (simp [fr_M_leans]; done) | (unfold fr_M_leans; omega))]) (fun k => by rw [F2 29 k (by first | (simp [fr_M_leans]; done) | (unfold fr_M_leans; omega))]) (fun k _ => by rw [F2 232 k (by first | (simp [fr_M_leans]; done) | (unfold fr_M_leans; omega))])), (fun q => zXgk_n (R10 (by omega)) (by rw [F2 64 2 (by first | (simp [fr_M_leans]; done) | (unfold fr_M_leans; omega))]) (fun k => by rw [F2 74 k (by first | (simp [fr_M_leans]; done) | (unfold fr_M_leans; omega))]) (fun k => by rw [F2 250 k (by first | (simp [fr_M_leans]; done) | (unfold fr_M_leans; omega))])), (zBD_n R11 (fun a i h => (F2 a i (zbg_M_leansFt h))) (fun a i h => (F2 a i (zbg_M_leansFc h)))), (zRw_n (fun k => by rw [F2 5 k (by first | (simp [fr_M_leans]; done) | (unfold fr_M_leans; omega))]) (fun k => by rw [F2 220 k (by first | (simp [fr_M_leans]; done) | (unfold fr_M_leans; omega))]) R12), (fun q => zRw_nk (fun k => by rw [F2 50 k (by first | (simp [fr_M_leans]; done) | (unfold fr_M_leans; omega))]) (fun k => by rw [F2 250 k (by first | (simp [fr_M_leans]; done) | (unfold fr_M_leans; omega))]) (R13 (by omega))), (zRw_n (fun k => by rw [F2 3 k (by first | (simp [fr_M_leans]; done) | (unfold fr_M_leans; omega))]) (fun k => by rw [F2 218 k (by first | (simp [fr_M_leans]; done) | (unfold fr_M_leans; omega))]) R14), (fun q => zRw_nk (fun k => by rw [F2 48 k (by first | (simp [fr_M_leans]; done) | (unfold fr_M_leans; omega))]) (fun k => by rw [F2 250 k (by first | (simp [fr_M_leans]; done) | (unfold fr_M_leans; omega))]) (R15 (by omega))), (zRw_n (fun k => by rw [F2 4 k (by first | (simp [fr_M_leans]; done) | (unfold fr_M_leans; omega))]) (fun k => by rw [F2 219 k (by first | (simp [fr_M_leans]; done) | (unfold fr_M_leans; omega))]) R16), (fun q => zRw_nk (fun k => by rw [F2 49 k (by first | (simp [fr_M_leans]; done) | (unfold fr_M_leans; omega))]) (fun k => by rw [F2 250 k (by first | (simp [fr_M_leans]; done) | (unfold fr_M_leans; omega))]) (R17 (by omega))), (zLW_n R18 (show 0 ≤ g 224 0 ∧ g 224 0 ≤ 16 from I.1 224 0).2 (fun a i h => (F2 a i (zbg_M_leansFlw h)))), (fun q => zLWk_n (R19 (by omega)) (fun a i h => (F2 a i (zbg_M_leansFlk h)))), (zFD_n R20 (fun a i h => (F2 a i (zbg_M_leansFe h)))), Z2⟩
theorem zpf_S_chapter {a : Nat} {i : Int} (hc : zPc a i) : ¬ fr_S_chapter a i := fun w => by
  unfold fr_S_chapter at w
  unfold zPc at hc
  omega
theorem zpf_M_chapter {a : Nat} {i : Int} (hc : zPc a i) : ¬ fr_M_chapter a i := fun w => by
  have ha := zPc_le hc
  unfold fr_M_chapter at w
  clear hc
  omega
theorem zbg_M_chapterFt {a : Nat} {i : Int} (h : zFt a i) : ¬ fr_M_chapter a i := fun w => by
  unfold fr_M_chapter at w
  unfold zFt at h
  omega
theorem zbg_S_chapterFt {a : Nat} {i : Int} (h : zFt a i) : ¬ fr_S_chapter a i := fun w => by
  unfold fr_S_chapter at w
  unfold zFt at h
  omega
theorem zbg_M_chapterFc {a : Nat} {i : Int} (h : zFc a i) : ¬ fr_M_chapter a i := fun w => by
  unfold fr_M_chapter at w
  unfold zFc at h
  omega
theorem zbg_S_chapterFc {a : Nat} {i : Int} (h : zFc a i) : ¬ fr_S_chapter a i := fun w => by
  unfold fr_S_chapter at w
  unfold zFc at h
  omega
theorem zbg_M_chapterFlw {a : Nat} {i : Int} (h : zFlw a i) : ¬ fr_M_chapter a i := fun w => by
  unfold fr_M_chapter at w
  unfold zFlw at h
  omega
theorem zbg_S_chapterFlw {a : Nat} {i : Int} (h : zFlw a i) : ¬ fr_S_chapter a i := fun w => by
  unfold fr_S_chapter at w
  unfold zFlw at h
  omega
theorem zbg_M_chapterFlk {a : Nat} {i : Int} (h : zFlk a i) : ¬ fr_M_chapter a i := fun w => by
  unfold fr_M_chapter at w
  unfold zFlk at h
  omega
theorem zbg_S_chapterFlk {a : Nat} {i : Int} (h : zFlk a i) : ¬ fr_S_chapter a i := fun w => by
  unfold fr_S_chapter at w
  unfold zFlk at h
  omega
theorem zbg_M_chapterFe {a : Nat} {i : Int} (h : zFe a i) : ¬ fr_M_chapter a i := fun w => by
  unfold fr_M_chapter at w
  unfold zFe at h
  omega
theorem zbg_S_chapterFe {a : Nat} {i : Int} (h : zFe a i) : ¬ fr_S_chapter a i := fun w => by
  unfold fr_S_chapter at w
  unfold zFe at h
  omega
set_option maxRecDepth 100000 in
set_option maxHeartbeats 4000000 in
theorem zw_c32 {E : sx_E} {i : Int} {g : zi_M} (hL : sx_Ln E ≤ 3072) (h0 : 0 ≤ i) (h6 : i + 6 ≤ ((sx_Ln E : Nat) : Int)) (R : zw_R g) (k : ∀ g' : zi_M, zw_R g' → zi_W E 420 326 1356 [some (.ref 1000000000), some (.ref 0), some (.ref 214), some (zi_i i)] [] g' zw_Q) : zi_W E 420 326 1202 [some (.ref 1000000000), some (.ref 0), some (.ref 214), some (zi_i i)] [] g zw_Q := by
  obtain ⟨I, R0, R1, R2, R3, R4, R5, R6, R7, R8, R9, R10, R11, R12, R13, R14, R15, R16, R17, R18, R19, R20, R21⟩ := R
  refine zi_aload_n (pc' := 1203) rfl rfl rfl ?_
  refine zi_aload_n (pc' := 1204) rfl rfl rfl ?_
  refine zi_iload_n (pc' := 1205) rfl rfl rfl ?_
  refine zi_iconst (pc' := 1206) rfl rfl ?_
  refine zi_iadd (pc' := 1207) rfl rfl ?_
  refine zi_xald (pc' := 1208) rfl rfl hL ⟨by omega, by omega⟩ ?_
  refine zi_callV (d' := 1) (as := [_]) (pc' := 1211) rfl rfl rfl rfl (by decide) (s_S_chapter (Q := fun v g' => zk_I g' ∧ zk_fr fr_S_chapter g g') (Nat.le_refl _) (k_S_chapter I (zw_r _ _) (fun v g' I' F' h0 h1 h2 h3 h4 => ⟨I', F'⟩))) (zi_ki (fun v1 g1 h1 => ?_))
  obtain ⟨I1, F1⟩ := h1
  have c1_0_2 : g1 0 2 = g 0 2 := F1 0 2 (by first | (simp [fr_S_chapter]; done) | (unfold fr_S_chapter; omega))
  have c1_0_8 : g1 0 8 = g 0 8 := F1 0 8 (by first | (simp [fr_S_chapter]; done) | (unfold fr_S_chapter; omega))
  have c1_2_8 : g1 2 8 = g 2 8 := F1 2 8 (by first | (simp [fr_S_chapter]; done) | (unfold fr_S_chapter; omega))
  have c1_2_11 : g1 2 11 = g 2 11 := F1 2 11 (by first | (simp [fr_S_chapter]; done) | (unfold fr_S_chapter; omega))
  have c1_47_8 : g1 47 8 = g 47 8 := F1 47 8 (by first | (simp [fr_S_chapter]; done) | (unfold fr_S_chapter; omega))
  have c1_47_11 : g1 47 11 = g 47 11 := F1 47 11 (by first | (simp [fr_S_chapter]; done) | (unfold fr_S_chapter; omega))
  have c1_214_6 : g1 214 6 = g 214 6 := F1 214 6 (by first | (simp [fr_S_chapter]; done) | (unfold fr_S_chapter; omega))
  have c1_214_7 : g1 214 7 = g 214 7 := F1 214 7 (by first | (simp [fr_S_chapter]; done) | (unfold fr_S_chapter; omega))
  have c1_214_13 : g1 214 13 = g 214 13 := F1 214 13 (by first | (simp [fr_S_chapter]; done) | (unfold fr_S_chapter; omega))
  have c1_214_62 : g1 214 62 = g 214 62 := F1 214 62 (by first | (simp [fr_S_chapter]; done) | (unfold fr_S_chapter; omega))
  have c1_250_264 : g1 250 264 = g 250 264 := F1 250 264 (by first | (simp [fr_S_chapter]; done) | (unfold fr_S_chapter; omega))
  have c1_250_265 : g1 250 265 = g 250 265 := F1 250 265 (by first | (simp [fr_S_chapter]; done) | (unfold fr_S_chapter; omega))
  have Z1 : zP g1 := zP_eq (fun a i hc => F1 a i (zpf_S_chapter hc)) R21
  refine zi_pop (pc' := 1212) rfl rfl rfl ?_
  refine zi_aload_n (pc' := 1213) rfl rfl rfl ?_
  refine zi_aload_n (pc' := 1214) rfl rfl rfl ?_
  refine zi_iload_n (pc' := 1215) rfl rfl rfl ?_
  refine zi_iconst (pc' := 1216) rfl rfl ?_
  refine zi_iadd (pc' := 1217) rfl rfl ?_
  refine zi_xald (pc' := 1218) rfl rfl hL ⟨by omega, by omega⟩ ?_
  refine zi_callV (d' := 2) (as := [_]) (pc' := 1221) rfl rfl rfl rfl (by decide) (s_M_chapter (Q := fun v g' => zk_I g' ∧ zk_fr fr_M_chapter g1 g') (Nat.le_refl _) (k_M_chapter I1 (zw_r _ _) (fun v g' I' F' h0 h1 h2 h3 h4 => ⟨I', F'⟩))) (zi_ki (fun v2 g2 h2 => ?_))
  obtain ⟨I2, F2⟩ := h2
  have c2_0_2 : g2 0 2 = g1 0 2 := F2 0 2 (by first | (simp [fr_M_chapter]; done) | (unfold fr_M_chapter; omega))
  have c2_0_8 : g2 0 8 = g1 0 8 := F2 0 8 (by first | (simp [fr_M_chapter]; done) | (unfold fr_M_chapter; omega))
  have c2_2_8 : g2 2 8 = g1 2 8 := F2 2 8 (by first | (simp [fr_M_chapter]; done) | (unfold fr_M_chapter; omega))
  have c2_2_11 : g2 2 11 = g1 2 11 := F2 2 11 (by first | (simp [fr_M_chapter]; done) | (unfold fr_M_chapter; omega))
  have c2_47_8 : g2 47 8 = g1 47 8 := F2 47 8 (by first | (simp [fr_M_chapter]; done) | (unfold fr_M_chapter; omega))
  have c2_47_11 : g2 47 11 = g1 47 11 := F2 47 11 (by first | (simp [fr_M_chapter]; done) | (unfold fr_M_chapter; omega))
  have c2_214_6 : g2 214 6 = g1 214 6 := F2 214 6 (by first | (simp [fr_M_chapter]; done) | (unfold fr_M_chapter; omega))
  have c2_214_7 : g2 214 7 = g1 214 7 := F2 214 7 (by first | (simp [fr_M_chapter]; done) | (unfold fr_M_chapter; omega))
  have c2_214_13 : g2 214 13 = g1 214 13 := F2 214 13 (by first | (simp [fr_M_chapter]; done) | (unfold fr_M_chapter; omega))
  have c2_214_62 : g2 214 62 = g1 214 62 := F2 214 62 (by first | (simp [fr_M_chapter]; done) | (unfold fr_M_chapter; omega))
  have c2_250_264 : g2 250 264 = g1 250 264 := F2 250 264 (by first | (simp [fr_M_chapter]; done) | (unfold fr_M_chapter; omega))
  have c2_250_265 : g2 250 265 = g1 250 265 := F2 250 265 (by first | (simp [fr_M_chapter]; done) | (unfold fr_M_chapter; omega))
  have Z2 : zP g2 := zP_eq (fun a i hc => F2 a i (zpf_M_chapter hc)) Z1
  refine zi_pop (pc' := 1222) rfl rfl rfl ?_
  refine zi_goto (x := 1356) rfl ?_
  exact k _ ⟨I2, (by rw [c2_0_2, c1_0_2, c2_214_62, c1_214_62]; exact R0), (by rw [c2_0_8, c1_0_8, c2_214_13, c1_214_13]; exact R1), (funext fun k => by rw [F2 190 k (by first | (simp [fr_M_chapter]; done) | (unfold fr_M_chapter; omega)), F1 190 k (by first | (simp [fr_S_chapter]; done) | (unfold fr_S_chapter; omega)), F2 222 k (by first | (simp [fr_M_chapter]; done) | (unfold fr_M_chapter; omega)), F1 222 k (by first | (simp [fr_S_chapter]; done) | (unfold fr_S_chapter; omega))]; exact congrFun R2 k), (by rw [c2_2_8, c1_2_8, c2_214_6, c1_214_6]; exact R3), (fun q => by rw [c2_47_8, c1_47_8, c2_250_264, c1_250_264]; exact R4 (by rw [c2_0_2, c1_0_2] at q; exact q)), (by rw [c2_2_11, c1_2_11, c2_214_7, c1_214_7]; exact R5), (fun q => by rw [c2_47_11, c1_47_11, c2_250_265, c1_250_265]; exact R6 (by rw [c2_0_2, c1_0_2] at q; exact q)), (zXw_n R7 (by rw [F2 19 5 (by first | (simp [fr_M_chapter]; done) | (unfold fr_M_chapter; omega)), F1 19 5 (by first | (simp [fr_S_chapter]; done) | (unfold fr_S_chapter; omega))]) (by rw [F2 214 37 (by first | (simp [fr_M_chapter]; done) | (unfold fr_M_chapter; omega)), F1 214 37 (by first | (simp [fr_S_chapter]; done) | (unfold fr_S_chapter; omega))]) (fun k => by rw [F2 30 k (by first | (simp [fr_M_chapter]; done) | (unfold fr_M_chapter; omega)), F1 30 k (by first | (simp [fr_S_chapter]; done) | (unfold fr_S_chapter; omega))]) (fun k => by rw [F2 31 k (by first | (simp [fr_M_chapter]; done) | (unfold fr_M_chapter; omega)), F1 31 k (by first | (simp [fr_S_chapter]; done) | (unfold fr_S_chapter; omega))]) (fun k _ => by rw [F2 233 k (by first | (simp [fr_M_chapter]; done) | (unfold fr_M_chapter; omega)), F1 233 k (by first | (simp [fr_S_chapter]; done) | (unfold fr_S_chapter; omega))]) (show 0 ≤ g 19 5 ∧ g 19 5 ≤ 16 from I.1 19 5).2), (fun q => zXwk_n (R8 (by omega)) (by rw [F2 64 5 (by first | (simp [fr_M_chapter]; done) | (unfold fr_M_chapter; omega)), F1 64 5 (by first | (simp [fr_S_chapter]; done) | (unfold fr_S_chapter; omega))]) (fun k => by rw [F2 75 k (by first | (simp [fr_M_chapter]; done) | (unfold fr_M_chapter; omega)), F1 75 k (by first | (simp [fr_S_chapter]; done) | (unfold fr_S_chapter; omega))]) (fun k => by rw [F2 76 k (by first | (simp [fr_M_chapter]; done) | (unfold fr_M_chapter; omega)), F1 76 k (by first | (simp [fr_S_chapter]; done) | (unfold fr_S_chapter; omega))]) (fun k => by rw [F2 250 k (by first | (simp [fr_M_chapter]; done) | (unfold fr_M_chapter; omega)), F1 250 k (by first | (simp [fr_S_chapter]; done) | (unfold fr_S_chapter; omega))])), (zXg_n R9 (by rw [F2 19 2 (by first | (simp [fr_M_chapter]; done) | (unfold fr_M_chapter; omega)), F1 19 2 (by first | (simp [fr_S_chapter]; done) | (unfold fr_S_chapter; omega))]) (by rw [F2 214 35 (by first | (simp [fr_M_chapter]; done) | (unfold fr_M_chapter; omega)), F1 214 35 (by first | (simp [fr_S_chapter]; done) | (unfold fr_S_chapter; omega))]) (fun k => by rw [F2 29 k (by first | (simp [fr_M_chapter]; done) | (unfold fr_M_chapter; omega)), F1 29 k (by first | (simp [fr_S_chapter]; done) | (unfold fr_S_chapter; omega))]) (fun k _ => by rw [F2 232 k (by first | (simp [fr_M_chapter]; done) | (unfold fr_M_chapter; omega)), F1 232 k (by first | (simp [fr_S_chapter]; done) | (unfold fr_S_chapter; omega))])), (fun q => zXgk_n (R10 (by omega)) (by rw [F2 64 2 (by first | (simp [fr_M_chapter]; done) | (unfold fr_M_chapter; omega)), F1 64 2 (by first | (simp [fr_S_chapter]; done) | (unfold fr_S_chapter; omega))]) (fun k => by rw [F2 74 k (by first | (simp [fr_M_chapter]; done) | (unfold fr_M_chapter; omega)), F1 74 k (by first | (simp [fr_S_chapter]; done) | (unfold fr_S_chapter; omega))]) (fun k => by rw [F2 250 k (by first | (simp [fr_M_chapter]; done) | (unfold fr_M_chapter; omega)), F1 250 k (by first | (simp [fr_S_chapter]; done) | (unfold fr_S_chapter; omega))])), (zBD_n R11 (fun a i h => (F2 a i (zbg_M_chapterFt h)).trans (F1 a i (zbg_S_chapterFt h))) (fun a i h => (F2 a i (zbg_M_chapterFc h)).trans (F1 a i (zbg_S_chapterFc h)))), (zRw_n (fun k => by rw [F2 5 k (by first | (simp [fr_M_chapter]; done) | (unfold fr_M_chapter; omega)), F1 5 k (by first | (simp [fr_S_chapter]; done) | (unfold fr_S_chapter; omega))]) (fun k => by rw [F2 220 k (by first | (simp [fr_M_chapter]; done) | (unfold fr_M_chapter; omega)), F1 220 k (by first | (simp [fr_S_chapter]; done) | (unfold fr_S_chapter; omega))]) R12), (fun q => zRw_nk (fun k => by rw [F2 50 k (by first | (simp [fr_M_chapter]; done) | (unfold fr_M_chapter; omega)), F1 50 k (by first | (simp [fr_S_chapter]; done) | (unfold fr_S_chapter; omega))]) (fun k => by rw [F2 250 k (by first | (simp [fr_M_chapter]; done) | (unfold fr_M_chapter; omega)), F1 250 k (by first | (simp [fr_S_chapter]; done) | (unfold fr_S_chapter; omega))]) (R13 (by omega))), (zRw_n (fun k => by rw [F2 3 k (by first | (simp [fr_M_chapter]; done) | (unfold fr_M_chapter; omega)), F1 3 k (by first | (simp [fr_S_chapter]; done) | (unfold fr_S_chapter; omega))]) (fun k => by rw [F2 218 k (by first | (simp [fr_M_chapter]; done) | (unfold fr_M_chapter; omega)), F1 218 k (by first | (simp [fr_S_chapter]; done) | (unfold fr_S_chapter; omega))]) R14), (fun q => zRw_nk (fun k => by rw [F2 48 k (by first | (simp [fr_M_chapter]; done) | (unfold fr_M_chapter; omega)), F1 48 k (by first | (simp [fr_S_chapter]; done) | (unfold fr_S_chapter; omega))]) (fun k => by rw [F2 250 k (by first | (simp [fr_M_chapter]; done) | (unfold fr_M_chapter; omega)), F1 250 k (by first | (simp [fr_S_chapter]; done) | (unfold fr_S_chapter; omega))]) (R15 (by omega))), (zRw_n (fun k => by rw [F2 4 k (by first | (simp [fr_M_chapter]; done) | (unfold fr_M_chapter; omega)), F1 4 k (by first | (simp [fr_S_chapter]; done) | (unfold fr_S_chapter; omega))]) (fun k => by rw [F2 219 k (by first | (simp [fr_M_chapter]; done) | (unfold fr_M_chapter; omega)), F1 219 k (by first | (simp [fr_S_chapter]; done) | (unfold fr_S_chapter; omega))]) R16), (fun q => zRw_nk (fun k => by rw [F2 49 k (by first | (simp [fr_M_chapter]; done) | (unfold fr_M_chapter; omega)), F1 49 k (by first | (simp [fr_S_chapter]; done) | (unfold fr_S_chapter; omega))]) (fun k => by rw [F2 250 k (by first | (simp [fr_M_chapter]; done) | (unfold fr_M_chapter; omega)), F1 250 k (by first | (simp [fr_S_chapter]; done) | (unfold fr_S_chapter; omega))]) (R17 (by omega))), (zLW_n R18 (show 0 ≤ g 224 0 ∧ g 224 0 ≤ 16 from I.1 224 0).2 (fun a i h => (F2 a i (zbg_M_chapterFlw h)).trans (F1 a i (zbg_S_chapterFlw h)))), (fun q => zLWk_n (R19 (by omega)) (fun a i h => (F2 a i (zbg_M_chapterFlk h)).trans (F1 a i (zbg_S_chapterFlk h)))), (zFD_n R20 (fun a i h => (F2 a i (zbg_M_chapterFe h)).trans (F1 a i (zbg_S_chapterFe h)))), Z2⟩
