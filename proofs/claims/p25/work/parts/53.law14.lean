-- by program (wip/gen/mklaw.py)
theorem zpf_S_read {a : Nat} {i : Int} (hc : zPc a i) : ¬ fr_S_read a i := fun w => by
  unfold fr_S_read at w
  unfold zPc at hc
  omega
theorem zpf_M_read {a : Nat} {i : Int} (hc : zPc a i) : ¬ fr_M_read a i := fun w => by
  have ha := zPc_le hc
  unfold fr_M_read at w
  clear hc
  omega
theorem zbg_M_readFt {a : Nat} {i : Int} (h : zFt a i) : ¬ fr_M_read a i := fun w => by
  unfold fr_M_read at w
  unfold zFt at h
  omega
theorem zbg_S_readFt {a : Nat} {i : Int} (h : zFt a i) : ¬ fr_S_read a i := fun w => by
  unfold fr_S_read at w
  unfold zFt at h
  omega
theorem zbg_M_readFc {a : Nat} {i : Int} (h : zFc a i) : ¬ fr_M_read a i := fun w => by
  unfold fr_M_read at w
  unfold zFc at h
  omega
theorem zbg_S_readFc {a : Nat} {i : Int} (h : zFc a i) : ¬ fr_S_read a i := fun w => by
  unfold fr_S_read at w
  unfold zFc at h
  omega
theorem zbg_M_readFlw {a : Nat} {i : Int} (h : zFlw a i) : ¬ fr_M_read a i := fun w => by
  unfold fr_M_read at w
  unfold zFlw at h
  omega
theorem zbg_S_readFlw {a : Nat} {i : Int} (h : zFlw a i) : ¬ fr_S_read a i := fun w => by
  unfold fr_S_read at w
  unfold zFlw at h
  omega
theorem zbg_M_readFlk {a : Nat} {i : Int} (h : zFlk a i) : ¬ fr_M_read a i := fun w => by
  unfold fr_M_read at w
  unfold zFlk at h
  omega
theorem zbg_S_readFlk {a : Nat} {i : Int} (h : zFlk a i) : ¬ fr_S_read a i := fun w => by
  unfold fr_S_read at w
  unfold zFlk at h
  omega
theorem zbg_M_readFe {a : Nat} {i : Int} (h : zFe a i) : ¬ fr_M_read a i := fun w => by
  unfold fr_M_read at w
  unfold zFe at h
  omega
theorem zbg_S_readFe {a : Nat} {i : Int} (h : zFe a i) : ¬ fr_S_read a i := fun w => by
  unfold fr_S_read at w
  unfold zFe at h
  omega
set_option maxRecDepth 100000 in
set_option maxHeartbeats 4000000 in
theorem zw_c33 {E : sx_E} {i : Int} {g : zi_M} (hL : sx_Ln E ≤ 3072) (h0 : 0 ≤ i) (h6 : i + 6 ≤ ((sx_Ln E : Nat) : Int)) (R : zw_R g) (k : ∀ g' : zi_M, zw_R g' → zi_W E 420 326 1356 [some (.ref 1000000000), some (.ref 0), some (.ref 214), some (zi_i i)] [] g' zw_Q) : zi_W E 420 326 1225 [some (.ref 1000000000), some (.ref 0), some (.ref 214), some (zi_i i)] [] g zw_Q := by
  obtain ⟨I, R0, R1, R2, R3, R4, R5, R6, R7, R8, R9, R10, R11, R12, R13, R14, R15, R16, R17, R18, R19, R20, R21⟩ := R
  refine zi_aload_n (pc' := 1226) rfl rfl rfl ?_
  refine zi_aload_n (pc' := 1227) rfl rfl rfl ?_
  refine zi_iload_n (pc' := 1228) rfl rfl rfl ?_
  refine zi_iconst (pc' := 1229) rfl rfl ?_
  refine zi_iadd (pc' := 1230) rfl rfl ?_
  refine zi_xald (pc' := 1231) rfl rfl hL ⟨by omega, by omega⟩ ?_
  refine zi_aload_n (pc' := 1232) rfl rfl rfl ?_
  refine zi_iload_n (pc' := 1233) rfl rfl rfl ?_
  refine zi_iconst (pc' := 1234) rfl rfl ?_
  refine zi_iadd (pc' := 1235) rfl rfl ?_
  refine zi_xald (pc' := 1236) rfl rfl hL ⟨by omega, by omega⟩ ?_
  refine zi_callV (d' := 4) (as := [_, _]) (pc' := 1239) rfl rfl rfl rfl (by decide) (s_S_read (Q := fun v g' => zk_I g' ∧ zk_fr fr_S_read g g') (Nat.le_refl _) (k_S_read I (zw_r _ _) (zw_r _ _) (fun v g' I' F' h0 h1 h2 h3 h4 => ⟨I', F'⟩))) (zi_ki (fun v1 g1 h1 => ?_))
  obtain ⟨I1, F1⟩ := h1
  have c1_0_2 : g1 0 2 = g 0 2 := F1 0 2 (by first | (simp [fr_S_read]; done) | (unfold fr_S_read; omega))
  have c1_0_8 : g1 0 8 = g 0 8 := F1 0 8 (by first | (simp [fr_S_read]; done) | (unfold fr_S_read; omega))
  have c1_2_8 : g1 2 8 = g 2 8 := F1 2 8 (by first | (simp [fr_S_read]; done) | (unfold fr_S_read; omega))
  have c1_2_11 : g1 2 11 = g 2 11 := F1 2 11 (by first | (simp [fr_S_read]; done) | (unfold fr_S_read; omega))
  have c1_47_8 : g1 47 8 = g 47 8 := F1 47 8 (by first | (simp [fr_S_read]; done) | (unfold fr_S_read; omega))
  have c1_47_11 : g1 47 11 = g 47 11 := F1 47 11 (by first | (simp [fr_S_read]; done) | (unfold fr_S_read; omega))
  have c1_214_6 : g1 214 6 = g 214 6 := F1 214 6 (by first | (simp [fr_S_read]; done) | (unfold fr_S_read; omega))
  have c1_214_7 : g1 214 7 = g 214 7 := F1 214 7 (by first | (simp [fr_S_read]; done) | (unfold fr_S_read; omega))
  have c1_214_13 : g1 214 13 = g 214 13 := F1 214 13 (by first | (simp [fr_S_read]; done) | (unfold fr_S_read; omega))
  have c1_214_62 : g1 214 62 = g 214 62 := F1 214 62 (by first | (simp [fr_S_read]; done) | (unfold fr_S_read; omega))
  have c1_250_264 : g1 250 264 = g 250 264 := F1 250 264 (by first | (simp [fr_S_read]; done) | (unfold fr_S_read; omega))
  have c1_250_265 : g1 250 265 = g 250 265 := F1 250 265 (by first | (simp [fr_S_read]; done) | (unfold fr_S_read; omega))
  have Z1 : zP g1 := zP_eq (fun a i hc => F1 a i (zpf_S_read hc)) R21
  refine zi_pop (pc' := 1240) rfl rfl rfl ?_
  refine zi_aload_n (pc' := 1241) rfl rfl rfl ?_
  refine zi_aload_n (pc' := 1242) rfl rfl rfl ?_
  refine zi_iload_n (pc' := 1243) rfl rfl rfl ?_
  refine zi_iconst (pc' := 1244) rfl rfl ?_
  refine zi_iadd (pc' := 1245) rfl rfl ?_
  refine zi_xald (pc' := 1246) rfl rfl hL ⟨by omega, by omega⟩ ?_
  refine zi_aload_n (pc' := 1247) rfl rfl rfl ?_
  refine zi_iload_n (pc' := 1248) rfl rfl rfl ?_
  refine zi_iconst (pc' := 1249) rfl rfl ?_
  refine zi_iadd (pc' := 1250) rfl rfl ?_
  refine zi_xald (pc' := 1251) rfl rfl hL ⟨by omega, by omega⟩ ?_
  refine zi_callV (d' := 3) (as := [_, _]) (pc' := 1254) rfl rfl rfl rfl (by decide) (s_M_read (Q := fun v g' => zk_I g' ∧ zk_fr fr_M_read g1 g') (Nat.le_refl _) (k_M_read I1 (zw_r _ _) (zw_r _ _) (fun v g' I' F' h0 h1 h2 h3 h4 => ⟨I', F'⟩))) (zi_ki (fun v2 g2 h2 => ?_))
  obtain ⟨I2, F2⟩ := h2
  have c2_0_2 : g2 0 2 = g1 0 2 := F2 0 2 (by first | (simp [fr_M_read]; done) | (unfold fr_M_read; omega))
  have c2_0_8 : g2 0 8 = g1 0 8 := F2 0 8 (by first | (simp [fr_M_read]; done) | (unfold fr_M_read; omega))
  have c2_2_8 : g2 2 8 = g1 2 8 := F2 2 8 (by first | (simp [fr_M_read]; done) | (unfold fr_M_read; omega))
  have c2_2_11 : g2 2 11 = g1 2 11 := F2 2 11 (by first | (simp [fr_M_read]; done) | (unfold fr_M_read; omega))
  have c2_47_8 : g2 47 8 = g1 47 8 := F2 47 8 (by first | (simp [fr_M_read]; done) | (unfold fr_M_read; omega))
  have c2_47_11 : g2 47 11 = g1 47 11 := F2 47 11 (by first | (simp [fr_M_read]; done) | (unfold fr_M_read; omega))
  have c2_214_6 : g2 214 6 = g1 214 6 := F2 214 6 (by first | (simp [fr_M_read]; done) | (unfold fr_M_read; omega))
  have c2_214_7 : g2 214 7 = g1 214 7 := F2 214 7 (by first | (simp [fr_M_read]; done) | (unfold fr_M_read; omega))
  have c2_214_13 : g2 214 13 = g1 214 13 := F2 214 13 (by first | (simp [fr_M_read]; done) | (unfold fr_M_read; omega))
  have c2_214_62 : g2 214 62 = g1 214 62 := F2 214 62 (by first | (simp [fr_M_read]; done) | (unfold fr_M_read; omega))
  have c2_250_264 : g2 250 264 = g1 250 264 := F2 250 264 (by first | (simp [fr_M_read]; done) | (unfold fr_M_read; omega))
  have c2_250_265 : g2 250 265 = g1 250 265 := F2 250 265 (by first | (simp [fr_M_read]; done) | (unfold fr_M_read; omega))
  have Z2 : zP g2 := zP_eq (fun a i hc => F2 a i (zpf_M_read hc)) Z1
  refine zi_pop (pc' := 1255) rfl rfl rfl ?_
  refine zi_goto (x := 1356) rfl ?_
  exact k _ ⟨I2, (by rw [c2_0_2, c1_0_2, c2_214_62, c1_214_62]; exact R0), (by rw [c2_0_8, c1_0_8, c2_214_13, c1_214_13]; exact R1), (funext fun k => by rw [F2 190 k (by first | (simp [fr_M_read]; done) | (unfold fr_M_read; omega)), F1 190 k (by first | (simp [fr_S_read]; done) | (unfold fr_S_read; omega)), F2 222 k (by first | (simp [fr_M_read]; done) | (unfold fr_M_read; omega)), F1 222 k (by first | (simp [fr_S_read]; done) | (unfold fr_S_read; omega))]; exact congrFun R2 k), (by rw [c2_2_8, c1_2_8, c2_214_6, c1_214_6]; exact R3), (fun q => by rw [c2_47_8, c1_47_8, c2_250_264, c1_250_264]; exact R4 (by rw [c2_0_2, c1_0_2] at q; exact q)), (by rw [c2_2_11, c1_2_11, c2_214_7, c1_214_7]; exact R5), (fun q => by rw [c2_47_11, c1_47_11, c2_250_265, c1_250_265]; exact R6 (by rw [c2_0_2, c1_0_2] at q; exact q)), (zXw_n R7 (by rw [F2 19 5 (by first | (simp [fr_M_read]; done) | (unfold fr_M_read; omega)), F1 19 5 (by first | (simp [fr_S_read]; done) | (unfold fr_S_read; omega))]) (by rw [F2 214 37 (by first | (simp [fr_M_read]; done) | (unfold fr_M_read; omega)), F1 214 37 (by first | (simp [fr_S_read]; done) | (unfold fr_S_read; omega))]) (fun k => by rw [F2 30 k (by first | (simp [fr_M_read]; done) | (unfold fr_M_read; omega)), F1 30 k (by first | (simp [fr_S_read]; done) | (unfold fr_S_read; omega))]) (fun k => by rw [F2 31 k (by first | (simp [fr_M_read]; done) | (unfold fr_M_read; omega)), F1 31 k (by first | (simp [fr_S_read]; done) | (unfold fr_S_read; omega))]) (fun k _ => by rw [F2 233 k (by first | (simp [fr_M_read]; done) | (unfold fr_M_read; omega)), F1 233 k (by first | (simp [fr_S_read]; done) | (unfold fr_S_read; omega))]) (show 0 ≤ g 19 5 ∧ g 19 5 ≤ 16 from I.1 19 5).2), (fun q => zXwk_n (R8 (by omega)) (by rw [F2 64 5 (by first | (simp [fr_M_read]; done) | (unfold fr_M_read; omega)), F1 64 5 (by first | (simp [fr_S_read]; done) | (unfold fr_S_read; omega))]) (fun k => by rw [F2 75 k (by first | (simp [fr_M_read]; done) | (unfold fr_M_read; omega)), F1 75 k (by first | (simp [fr_S_read]; done) | (unfold fr_S_read; omega))]) (fun k => by rw [F2 76 k (by first | (simp [fr_M_read]; done) | (unfold fr_M_read; omega)), F1 76 k (by first | (simp [fr_S_read]; done) | (unfold fr_S_read; omega))]) (fun k => by rw [F2 250 k (by first | (simp [fr_M_read]; done) | (unfold fr_M_read; omega)), F1 250 k (by first | (simp [fr_S_read]; done) | (unfold fr_S_read; omega))])), (zXg_n R9 (by rw [F2 19 2 (by first | (simp [fr_M_read]; done) | (unfold fr_M_read; omega)), F1 19 2 (by first | (simp [fr_S_read]; done) | (unfold fr_S_read; omega))]) (by rw [F2 214 35 (by first | (simp [fr_M_read]; done) | (unfold fr_M_read; omega)), F1 214 35 (by first | (simp [fr_S_read]; done) | (unfold fr_S_read; omega))]) (fun k => by rw [F2 29 k (by first | (simp [fr_M_read]; done) | (unfold fr_M_read; omega)), F1 29 k (by first | (simp [fr_S_read]; done) | (unfold fr_S_read; omega))]) (fun k _ => by rw [F2 232 k (by first | (simp [fr_M_read]; done) | (unfold fr_M_read; omega)), F1 232 k (by first | (simp [fr_S_read]; done) | (unfold fr_S_read; omega))])), (fun q => zXgk_n (R10 (by omega)) (by rw [F2 64 2 (by first | (simp [fr_M_read]; done) | (unfold fr_M_read; omega)), F1 64 2 (by first | (simp [fr_S_read]; done) | (unfold fr_S_read; omega))]) (fun k => by rw [F2 74 k (by first | (simp [fr_M_read]; done) | (unfold fr_M_read; omega)), F1 74 k (by first | (simp [fr_S_read]; done) | (unfold fr_S_read; omega))]) (fun k => by rw [F2 250 k (by first | (simp [fr_M_read]; done) | (unfold fr_M_read; omega)), F1 250 k (by first | (simp [fr_S_read]; done) | (unfold fr_S_read; omega))])), (zBD_n R11 (fun a i h => (F2 a i (zbg_M_readFt h)).trans (F1 a i (zbg_S_readFt h))) (fun a i h => (F2 a i (zbg_M_readFc h)).trans (F1 a i (zbg_S_readFc h)))), (zRw_n (fun k => by rw [F2 5 k (by first | (simp [fr_M_read]; done) | (unfold fr_M_read; omega)), F1 5 k (by first | (simp [fr_S_read]; done) | (unfold fr_S_read; omega))]) (fun k => by rw [F2 220 k (by first | (simp [fr_M_read]; done) | (unfold fr_M_read; omega)), F1 220 k (by first | (simp [fr_S_read]; done) | (unfold fr_S_read; omega))]) R12), (fun q => zRw_nk (fun k => by rw [F2 50 k (by first | (simp [fr_M_read]; done) | (unfold fr_M_read; omega)), F1 50 k (by first | (simp [fr_S_read]; done) | (unfold fr_S_read; omega))]) (fun k => by rw [F2 250 k (by first | (simp [fr_M_read]; done) | (unfold fr_M_read; omega)), F1 250 k (by first | (simp [fr_S_read]; done) | (unfold fr_S_read; omega))]) (R13 (by omega))), (zRw_n (fun k => by rw [F2 3 k (by first | (simp [fr_M_read]; done) | (unfold fr_M_read; omega)), F1 3 k (by first | (simp [fr_S_read]; done) | (unfold fr_S_read; omega))]) (fun k => by rw [F2 218 k (by first | (simp [fr_M_read]; done) | (unfold fr_M_read; omega)), F1 218 k (by first | (simp [fr_S_read]; done) | (unfold fr_S_read; omega))]) R14), (fun q => zRw_nk (fun k => by rw [F2 48 k (by first | (simp [fr_M_read]; done) | (unfold fr_M_read; omega)), F1 48 k (by first | (simp [fr_S_read]; done) | (unfold fr_S_read; omega))]) (fun k => by rw [F2 250 k (by first | (simp [fr_M_read]; done) | (unfold fr_M_read; omega)), F1 250 k (by first | (simp [fr_S_read]; done) | (unfold fr_S_read; omega))]) (R15 (by omega))), (zRw_n (fun k => by rw [F2 4 k (by first | (simp [fr_M_read]; done) | (unfold fr_M_read; omega)), F1 4 k (by first | (simp [fr_S_read]; done) | (unfold fr_S_read; omega))]) (fun k => by rw [F2 219 k (by first | (simp [fr_M_read]; done) | (unfold fr_M_read; omega)), F1 219 k (by first | (simp [fr_S_read]; done) | (unfold fr_S_read; omega))]) R16), (fun q => zRw_nk (fun k => by rw [F2 49 k (by first | (simp [fr_M_read]; done) | (unfold fr_M_read; omega)), F1 49 k (by first | (simp [fr_S_read]; done) | (unfold fr_S_read; omega))]) (fun k => by rw [F2 250 k (by first | (simp [fr_M_read]; done) | (unfold fr_M_read; omega)), F1 250 k (by first | (simp [fr_S_read]; done) | (unfold fr_S_read; omega))]) (R17 (by omega))), (zLW_n R18 (show 0 ≤ g 224 0 ∧ g 224 0 ≤ 16 from I.1 224 0).2 (fun a i h => (F2 a i (zbg_M_readFlw h)).trans (F1 a i (zbg_S_readFlw h)))), (fun q => zLWk_n (R19 (by omega)) (fun a i h => (F2 a i (zbg_M_readFlk h)).trans (F1 a i (zbg_S_readFlk h)))), (zFD_n R20 (fun a i h => (F2 a i (zbg_M_readFe h)).trans (F1 a i (zbg_S_readFe h)))), Z2⟩
theorem zpf_M_game {a : Nat} {i : Int} (hc : zPc a i) : ¬ fr_M_game a i := fun w => by
  have ha := zPc_le hc
  unfold fr_M_game at w
  clear hc
  omega
theorem zbg_M_gameFt {a : Nat} {i : Int} (h : zFt a i) : ¬ fr_M_game a i := fun w => by
  unfold fr_M_game at w
  unfold zFt at h
  omega
theorem zbg_M_gameFc {a : Nat} {i : Int} (h : zFc a i) : ¬ fr_M_game a i := fun w => by
  unfold fr_M_game at w
  unfold zFc at h
  omega
theorem zbg_M_gameFlw {a : Nat} {i : Int} (h : zFlw a i) : ¬ fr_M_game a i := fun w => by
  unfold fr_M_game at w
  unfold zFlw at h
  omega
theorem zbg_M_gameFlk {a : Nat} {i : Int} (h : zFlk a i) : ¬ fr_M_game a i := fun w => by
  unfold fr_M_game at w
  unfold zFlk at h
  omega
theorem zbg_M_gameFe {a : Nat} {i : Int} (h : zFe a i) : ¬ fr_M_game a i := fun w => by
  unfold fr_M_game at w
  unfold zFe at h
  omega
set_option maxRecDepth 100000 in
set_option maxHeartbeats 4000000 in
theorem zw_c34 {E : sx_E} {i : Int} {g : zi_M} (hL : sx_Ln E ≤ 3072) (h0 : 0 ≤ i) (h6 : i + 6 ≤ ((sx_Ln E : Nat) : Int)) (R : zw_R g) (k : ∀ g' : zi_M, zw_R g' → zi_W E 420 326 1356 [some (.ref 1000000000), some (.ref 0), some (.ref 214), some (zi_i i)] [] g' zw_Q) : zi_W E 420 326 1258 [some (.ref 1000000000), some (.ref 0), some (.ref 214), some (zi_i i)] [] g zw_Q := by
  obtain ⟨I, R0, R1, R2, R3, R4, R5, R6, R7, R8, R9, R10, R11, R12, R13, R14, R15, R16, R17, R18, R19, R20, R21⟩ := R
  refine zi_aload_n (pc' := 1259) rfl rfl rfl ?_
  refine zi_aload_n (pc' := 1260) rfl rfl rfl ?_
  refine zi_iload_n (pc' := 1261) rfl rfl rfl ?_
  refine zi_iconst (pc' := 1262) rfl rfl ?_
  refine zi_iadd (pc' := 1263) rfl rfl ?_
  refine zi_xald (pc' := 1264) rfl rfl hL ⟨by omega, by omega⟩ ?_
  refine zi_callV (d' := 4) (as := [_]) (pc' := 1267) rfl rfl rfl rfl (by decide) (s_S_game (Q := fun v g' => g' = g) (Nat.le_refl _) (k_S_game I (zw_r _ _) (by intros; rfl))) (zi_ki (fun v1 g1 h1 => ?_))
  have E1 : g1 = g := h1
  rw [E1]
  refine zi_pop (pc' := 1268) rfl rfl rfl ?_
  refine zi_aload_n (pc' := 1269) rfl rfl rfl ?_
  refine zi_aload_n (pc' := 1270) rfl rfl rfl ?_
  refine zi_iload_n (pc' := 1271) rfl rfl rfl ?_
  refine zi_iconst (pc' := 1272) rfl rfl ?_
  refine zi_iadd (pc' := 1273) rfl rfl ?_
  refine zi_xald (pc' := 1274) rfl rfl hL ⟨by omega, by omega⟩ ?_
  refine zi_callV (d' := 2) (as := [_]) (pc' := 1277) rfl rfl rfl rfl (by decide) (s_M_game (Q := fun v g' => zk_I g' ∧ zk_fr fr_M_game g g') (Nat.le_refl _) (k_M_game I (zw_r _ _) (fun v g' I' F' h0 h1 => ⟨I', F'⟩))) (zi_ki (fun v2 g2 h2 => ?_))
  obtain ⟨I2, F2⟩ := h2
  have c2_0_2 : g2 0 2 = g 0 2 := F2 0 2 (by first | (simp [fr_M_game]; done) | (unfold fr_M_game; omega))
  have c2_0_8 : g2 0 8 = g 0 8 := F2 0 8 (by first | (simp [fr_M_game]; done) | (unfold fr_M_game; omega))
  have c2_2_8 : g2 2 8 = g 2 8 := F2 2 8 (by first | (simp [fr_M_game]; done) | (unfold fr_M_game; omega))
  have c2_2_11 : g2 2 11 = g 2 11 := F2 2 11 (by first | (simp [fr_M_game]; done) | (unfold fr_M_game; omega))
  have c2_47_8 : g2 47 8 = g 47 8 := F2 47 8 (by first | (simp [fr_M_game]; done) | (unfold fr_M_game; omega))
  have c2_47_11 : g2 47 11 = g 47 11 := F2 47 11 (by first | (simp [fr_M_game]; done) | (unfold fr_M_game; omega))
  have c2_214_6 : g2 214 6 = g 214 6 := F2 214 6 (by first | (simp [fr_M_game]; done) | (unfold fr_M_game; omega))
  have c2_214_7 : g2 214 7 = g 214 7 := F2 214 7 (by first | (simp [fr_M_game]; done) | (unfold fr_M_game; omega))
  have c2_214_13 : g2 214 13 = g 214 13 := F2 214 13 (by first | (simp [fr_M_game]; done) | (unfold fr_M_game; omega))
  have c2_214_62 : g2 214 62 = g 214 62 := F2 214 62 (by first | (simp [fr_M_game]; done) | (unfold fr_M_game; omega))
  have c2_250_264 : g2 250 264 = g 250 264 := F2 250 264 (by first | (simp [fr_M_game]; done) | (unfold fr_M_game; omega))
  have c2_250_265 : g2 250 265 = g 250 265 := F2 250 265 (by first | (simp [fr_M_game]; done) | (unfold fr_M_game; omega))
  have Z2 : zP g2 := zP_eq (fun a i hc => F2 a i (zpf_M_game hc)) R21
  refine zi_pop (pc' := 1278) rfl rfl rfl ?_
  refine zi_goto (x := 1356) rfl ?_
  exact k _ ⟨I2, (by rw [c2_0_2, c2_214_62]; exact R0), (by rw [c2_0_8, c2_214_13]; exact R1), (funext fun k => by rw [F2 190 k (by first | (simp [fr_M_game]; done) | (unfold fr_M_game; omega)), F2 222 k (by first | (simp [fr_M_game]; done) | (unfold fr_M_game; omega))]; exact congrFun R2 k), (by rw [c2_2_8, c2_214_6]; exact R3), (fun q => by rw [c2_47_8, c2_250_264]; exact R4 (by rw [c2_0_2] at q; exact q)), (by rw [c2_2_11, c2_214_7]; exact R5), (fun q => by rw [c2_47_11, c2_250_265]; exact R6 (by rw [c2_0_2] at q; exact q)), (zXw_n R7 (by rw [F2 19 5 (by first | (simp [fr_M_game]; done) | (unfold fr_M_game; omega))]) (by rw [F2 214 37 (by first | (simp [fr_M_game]; done) | (unfold fr_M_game; omega))]) (fun k => by rw [F2 30 k (by first | (simp [fr_M_game]; done) | (unfold fr_M_game; omega))]) (fun k => by rw [F2 31 k (by first | (simp [fr_M_game]; done) | (unfold fr_M_game; omega))]) (fun k _ => by rw [F2 233 k (by first | (simp [fr_M_game]; done) | (unfold fr_M_game; omega))]) (show 0 ≤ g 19 5 ∧ g 19 5 ≤ 16 from I.1 19 5).2), (fun q => zXwk_n (R8 (by omega)) (by rw [F2 64 5 (by first | (simp [fr_M_game]; done) | (unfold fr_M_game; omega))]) (fun k => by rw [F2 75 k (by first | (simp [fr_M_game]; done) | (unfold fr_M_game; omega))]) (fun k => by rw [F2 76 k (by first | (simp [fr_M_game]; done) | (unfold fr_M_game; omega))]) (fun k => by rw [F2 250 k (by first | (simp [fr_M_game]; done) | (unfold fr_M_game; omega))])), (zXg_n R9 (by rw [F2 19 2 (by first | (simp [fr_M_game]; done) | (unfold fr_M_game; omega))]) (by rw [F2 214 35 (by first | (simp [fr_M_game]; done) | (unfold fr_M_game; omega))]) (fun k => by rw [F2 29 k (by first | (simp [fr_M_game]; done) | (unfold fr_M_game; omega))]) (fun k _ => by rw [F2 232 k (by first | (simp [fr_M_game]; done) | (unfold fr_M_game; omega))])), (fun q => zXgk_n (R10 (by omega)) (by rw [F2 64 2 (by first | (simp [fr_M_game]; done) | (unfold fr_M_game; omega))]) (fun k => by rw [F2 74 k (by first | (simp [fr_M_game]; done) | (unfold fr_M_game; omega))]) (fun k => by rw [F2 250 k (by first | (simp [fr_M_game]; done) | (unfold fr_M_game; omega))])), (zBD_n R11 (fun a i h => (F2 a i (zbg_M_gameFt h))) (fun a i h => (F2 a i (zbg_M_gameFc h)))), (zRw_n (fun k => by rw [F2 5 k (by first | (simp [fr_M_game]; done) | (unfold fr_M_game; omega))]) (fun k => by rw [F2 220 k (by first | (simp [fr_M_game]; done) | (unfold fr_M_game; omega))]) R12), (fun q => zRw_nk (fun k => by rw [F2 50 k (by first | (simp [fr_M_game]; done) | (unfold fr_M_game; omega))]) (fun k => by rw [F2 250 k (by first | (simp [fr_M_game]; done) | (unfold fr_M_game; omega))]) (R13 (by omega))), (zRw_n (fun k => by rw [F2 3 k (by first | (simp [fr_M_game]; done) | (unfold fr_M_game; omega))]) (fun k => by rw [F2 218 k (by first | (simp [fr_M_game]; done) | (unfold fr_M_game; omega))]) R14), (fun q => zRw_nk (fun k => by rw [F2 48 k (by first | (simp [fr_M_game]; done) | (unfold fr_M_game; omega))]) (fun k => by rw [F2 250 k (by first | (simp [fr_M_game]; done) | (unfold fr_M_game; omega))]) (R15 (by omega))), (zRw_n (fun k => by rw [F2 4 k (by first | (simp [fr_M_game]; done) | (unfold fr_M_game; omega))]) (fun k => by rw [F2 219 k (by first | (simp [fr_M_game]; done) | (unfold fr_M_game; omega))]) R16), (fun q => zRw_nk (fun k => by rw [F2 49 k (by first | (simp [fr_M_game]; done) | (unfold fr_M_game; omega))]) (fun k => by rw [F2 250 k (by first | (simp [fr_M_game]; done) | (unfold fr_M_game; omega))]) (R17 (by omega))), (zLW_n R18 (show 0 ≤ g 224 0 ∧ g 224 0 ≤ 16 from I.1 224 0).2 (fun a i h => (F2 a i (zbg_M_gameFlw h)))), (fun q => zLWk_n (R19 (by omega)) (fun a i h => (F2 a i (zbg_M_gameFlk h)))), (zFD_n R20 (fun a i h => (F2 a i (zbg_M_gameFe h)))), Z2⟩
theorem zpf_M_undo {a : Nat} {i : Int} (hc : zPc a i) : ¬ fr_M_undo a i := fun w => by
  have ha := zPc_le hc
  unfold fr_M_undo at w
  clear hc
  omega
theorem zbg_M_undoFlw {a : Nat} {i : Int} (h : zFlw a i) : ¬ fr_M_undo a i := fun w => by
  unfold fr_M_undo at w
  unfold zFlw at h
  omega
theorem zbg_S_undoFlw {a : Nat} {i : Int} (h : zFlw a i) : ¬ fr_S_undo a i := fun w => by
  unfold fr_S_undo at w
  unfold zFlw at h
  omega
theorem zbg_M_undoFlk {a : Nat} {i : Int} (h : zFlk a i) : ¬ fr_M_undo a i := fun w => by
  unfold fr_M_undo at w
  unfold zFlk at h
  omega
theorem zbg_S_undoFlk {a : Nat} {i : Int} (h : zFlk a i) : ¬ fr_S_undo a i := fun w => by
  unfold fr_S_undo at w
  unfold zFlk at h
  omega
set_option maxRecDepth 100000 in
set_option maxHeartbeats 4000000 in
theorem zw_c35 {E : sx_E} {i : Int} {g : zi_M} (hL : sx_Ln E ≤ 3072) (h0 : 0 ≤ i) (h6 : i + 6 ≤ ((sx_Ln E : Nat) : Int)) (R : zw_R g) (k : ∀ g' : zi_M, zw_R g' → zi_W E 420 326 1356 [some (.ref 1000000000), some (.ref 0), some (.ref 214), some (zi_i i)] [] g' zw_Q) : zi_W E 420 326 1281 [some (.ref 1000000000), some (.ref 0), some (.ref 214), some (zi_i i)] [] g zw_Q := by
  obtain ⟨I, R0, R1, R2, R3, R4, R5, R6, R7, R8, R9, R10, R11, R12, R13, R14, R15, R16, R17, R18, R19, R20, R21⟩ := R
  refine zi_aload_n (pc' := 1282) rfl rfl rfl ?_
  refine zi_callV (d' := 3) (as := []) (pc' := 1285) rfl rfl rfl rfl (by decide) (s_S_undo (Q := fun v g' => zk_I g' ∧ zk_fr fr_S_undo g g' ∧ (0 ≤ v ∧ v ≤ 1) ∧ (zP g → zP g' ∧ zQk g g') ∧ (zUk v g g')) (Nat.le_refl _) (k_S_undo I  (fun v g' I' F' h0 h1 h2 => ⟨I', F', h0, h1, h2⟩))) (zi_kb (fun v1 g1 b1 h1 => ?_))
  obtain ⟨I1, F1, p1_0, p1_1, p1_2⟩ := h1
  have c1_0_2 : g1 0 2 = g 0 2 := F1 0 2 (by first | (simp [fr_S_undo]; done) | (unfold fr_S_undo; omega))
  have c1_0_8 : g1 0 8 = g 0 8 := F1 0 8 (by first | (simp [fr_S_undo]; done) | (unfold fr_S_undo; omega))
  have c1_47_8 : g1 47 8 = g 47 8 := F1 47 8 (by first | (simp [fr_S_undo]; done) | (unfold fr_S_undo; omega))
  have c1_47_11 : g1 47 11 = g 47 11 := F1 47 11 (by first | (simp [fr_S_undo]; done) | (unfold fr_S_undo; omega))
  have c1_214_6 : g1 214 6 = g 214 6 := F1 214 6 (by first | (simp [fr_S_undo]; done) | (unfold fr_S_undo; omega))
  have c1_214_7 : g1 214 7 = g 214 7 := F1 214 7 (by first | (simp [fr_S_undo]; done) | (unfold fr_S_undo; omega))
  have c1_214_13 : g1 214 13 = g 214 13 := F1 214 13 (by first | (simp [fr_S_undo]; done) | (unfold fr_S_undo; omega))
  have c1_214_62 : g1 214 62 = g 214 62 := F1 214 62 (by first | (simp [fr_S_undo]; done) | (unfold fr_S_undo; omega))
  have c1_250_264 : g1 250 264 = g 250 264 := F1 250 264 (by first | (simp [fr_S_undo]; done) | (unfold fr_S_undo; omega))
  have c1_250_265 : g1 250 265 = g 250 265 := F1 250 265 (by first | (simp [fr_S_undo]; done) | (unfold fr_S_undo; omega))
  have Z1 := (p1_1 R21).1
  have c1_2_8 : g1 2 8 = g 2 8 := (p1_1 R21).2.1.1
  have c1_2_11 : g1 2 11 = g 2 11 := (p1_1 R21).2.1.2
  refine zi_pop (pc' := 1286) rfl rfl rfl ?_
  refine zi_aload_n (pc' := 1287) rfl rfl rfl ?_
  refine zi_callV (d' := 1) (as := []) (pc' := 1290) rfl rfl rfl rfl (by decide) (s_M_undo (Q := fun v g' => zk_I g' ∧ zk_fr fr_M_undo g1 g' ∧ (0 ≤ v ∧ v ≤ 1) ∧ (zUm v g1 g')) (Nat.le_refl _) (k_M_undo I1  (fun v g' I' F' h0 h1 => ⟨I', F', h0, h1⟩))) (zi_kb (fun v2 g2 b2 h2 => ?_))
  obtain ⟨I2, F2, p2_0, p2_1⟩ := h2
  have c2_0_2 : g2 0 2 = g1 0 2 := F2 0 2 (by first | (simp [fr_M_undo]; done) | (unfold fr_M_undo; omega))
  have c2_0_8 : g2 0 8 = g1 0 8 := F2 0 8 (by first | (simp [fr_M_undo]; done) | (unfold fr_M_undo; omega))
  have c2_2_8 : g2 2 8 = g1 2 8 := F2 2 8 (by first | (simp [fr_M_undo]; done) | (unfold fr_M_undo; omega))
  have c2_2_11 : g2 2 11 = g1 2 11 := F2 2 11 (by first | (simp [fr_M_undo]; done) | (unfold fr_M_undo; omega))
  have c2_47_8 : g2 47 8 = g1 47 8 := F2 47 8 (by first | (simp [fr_M_undo]; done) | (unfold fr_M_undo; omega))
  have c2_47_11 : g2 47 11 = g1 47 11 := F2 47 11 (by first | (simp [fr_M_undo]; done) | (unfold fr_M_undo; omega))
  have c2_214_6 : g2 214 6 = g1 214 6 := F2 214 6 (by first | (simp [fr_M_undo]; done) | (unfold fr_M_undo; omega))
  have c2_214_7 : g2 214 7 = g1 214 7 := F2 214 7 (by first | (simp [fr_M_undo]; done) | (unfold fr_M_undo; omega))
  have c2_214_13 : g2 214 13 = g1 214 13 := F2 214 13 (by first | (simp [fr_M_undo]; done) | (unfold fr_M_undo; omega))
  have c2_214_62 : g2 214 62 = g1 214 62 := F2 214 62 (by first | (simp [fr_M_undo]; done) | (unfold fr_M_undo; omega))
  have c2_250_264 : g2 250 264 = g1 250 264 := F2 250 264 (by first | (simp [fr_M_undo]; done) | (unfold fr_M_undo; omega))
  have c2_250_265 : g2 250 265 = g1 250 265 := F2 250 265 (by first | (simp [fr_M_undo]; done) | (unfold fr_M_undo; omega))
  have Z2 : zP g2 := zP_eq (fun a i hc => F2 a i (zpf_M_undo hc)) Z1
  have zb_ : zBD g2 := zBD_undo R11 R5 (I.1 91 1).1 p1_2 p2_1 (fun a i h => F1 a i (fun w => by unfold fr_S_undo at w; omega)) (fun a i h => F2 a i (fun w => by unfold fr_M_undo at w; omega)) c1_2_11 c1_2_8 (fun a i h => by (try unfold zFsx at h); (try unfold zFt at h); exact (F2 a i (fun w => by unfold fr_M_undo at w; omega)).trans (F1 a i (fun w => by unfold fr_S_undo at w; omega)))
  have zf2_ : zFD g2 := zFD_undo R20 R11.2.1.1 (I.1 91 1).1 p1_2 p2_1 (fun a i h => F1 a i (fun w => by unfold fr_S_undo at w; omega)) (fun a i h => F2 a i (fun w => by unfold fr_M_undo at w; omega)) c1_2_11 (fun a i h => by (exact (F2 a i (fun w => by unfold fr_M_undo at w; omega)).trans (F1 a i (fun w => by unfold fr_S_undo at w; omega))))
  refine zi_pop (pc' := 1291) rfl rfl rfl ?_
  refine zi_goto (x := 1356) rfl ?_
  exact k _ ⟨I2, (by rw [c2_0_2, c1_0_2, c2_214_62, c1_214_62]; exact R0), (by rw [c2_0_8, c1_0_8, c2_214_13, c1_214_13]; exact R1), (funext fun k => by rw [F2 190 k (by first | (simp [fr_M_undo]; done) | (unfold fr_M_undo; omega)), F1 190 k (by first | (simp [fr_S_undo]; done) | (unfold fr_S_undo; omega)), F2 222 k (by first | (simp [fr_M_undo]; done) | (unfold fr_M_undo; omega)), F1 222 k (by first | (simp [fr_S_undo]; done) | (unfold fr_S_undo; omega))]; exact congrFun R2 k), by omega, (fun q => by rw [c2_47_8, c1_47_8, c2_250_264, c1_250_264]; exact R4 (by rw [c2_0_2, c1_0_2] at q; exact q)), by omega, (fun q => by rw [c2_47_11, c1_47_11, c2_250_265, c1_250_265]; exact R6 (by rw [c2_0_2, c1_0_2] at q; exact q)), (zXw_n R7 (by rw [F2 19 5 (by first | (simp [fr_M_undo]; done) | (unfold fr_M_undo; omega)), F1 19 5 (by first | (simp [fr_S_undo]; done) | (unfold fr_S_undo; omega))]) (by rw [F2 214 37 (by first | (simp [fr_M_undo]; done) | (unfold fr_M_undo; omega)), F1 214 37 (by first | (simp [fr_S_undo]; done) | (unfold fr_S_undo; omega))]) (fun k => by rw [F2 30 k (by first | (simp [fr_M_undo]; done) | (unfold fr_M_undo; omega)), F1 30 k (by first | (simp [fr_S_undo]; done) | (unfold fr_S_undo; omega))]) (fun k => by rw [F2 31 k (by first | (simp [fr_M_undo]; done) | (unfold fr_M_undo; omega)), F1 31 k (by first | (simp [fr_S_undo]; done) | (unfold fr_S_undo; omega))]) (fun k _ => by rw [F2 233 k (by first | (simp [fr_M_undo]; done) | (unfold fr_M_undo; omega)), F1 233 k (by first | (simp [fr_S_undo]; done) | (unfold fr_S_undo; omega))]) (show 0 ≤ g 19 5 ∧ g 19 5 ≤ 16 from I.1 19 5).2), (fun q => zXwk_n (R8 (by omega)) (by rw [F2 64 5 (by first | (simp [fr_M_undo]; done) | (unfold fr_M_undo; omega)), F1 64 5 (by first | (simp [fr_S_undo]; done) | (unfold fr_S_undo; omega))]) (fun k => by rw [F2 75 k (by first | (simp [fr_M_undo]; done) | (unfold fr_M_undo; omega)), F1 75 k (by first | (simp [fr_S_undo]; done) | (unfold fr_S_undo; omega))]) (fun k => by rw [F2 76 k (by first | (simp [fr_M_undo]; done) | (unfold fr_M_undo; omega)), F1 76 k (by first | (simp [fr_S_undo]; done) | (unfold fr_S_undo; omega))]) (fun k => by rw [F2 250 k (by first | (simp [fr_M_undo]; done) | (unfold fr_M_undo; omega)), F1 250 k (by first | (simp [fr_S_undo]; done) | (unfold fr_S_undo; omega))])), (zXg_n R9 (by rw [F2 19 2 (by first | (simp [fr_M_undo]; done) | (unfold fr_M_undo; omega)), F1 19 2 (by first | (simp [fr_S_undo]; done) | (unfold fr_S_undo; omega))]) (by rw [F2 214 35 (by first | (simp [fr_M_undo]; done) | (unfold fr_M_undo; omega)), F1 214 35 (by first | (simp [fr_S_undo]; done) | (unfold fr_S_undo; omega))]) (fun k => by rw [F2 29 k (by first | (simp [fr_M_undo]; done) | (unfold fr_M_undo; omega)), F1 29 k (by first | (simp [fr_S_undo]; done) | (unfold fr_S_undo; omega))]) (fun k _ => by rw [F2 232 k (by first | (simp [fr_M_undo]; done) | (unfold fr_M_undo; omega)), F1 232 k (by first | (simp [fr_S_undo]; done) | (unfold fr_S_undo; omega))])), (fun q => zXgk_n (R10 (by omega)) (by rw [F2 64 2 (by first | (simp [fr_M_undo]; done) | (unfold fr_M_undo; omega)), F1 64 2 (by first | (simp [fr_S_undo]; done) | (unfold fr_S_undo; omega))]) (fun k => by rw [F2 74 k (by first | (simp [fr_M_undo]; done) | (unfold fr_M_undo; omega)), F1 74 k (by first | (simp [fr_S_undo]; done) | (unfold fr_S_undo; omega))]) (fun k => by rw [F2 250 k (by first | (simp [fr_M_undo]; done) | (unfold fr_M_undo; omega)), F1 250 k (by first | (simp [fr_S_undo]; done) | (unfold fr_S_undo; omega))])), zb_, (fun k k0 k1 => by have a5 := R12 k k0 k1; try dsimp only at a5; try dsimp only; try simp only [Int.zero_add] at a5; try simp only [Int.zero_add]; have b1 := (p1_1 R21).2.2.2.2 k k0 k1; have d1 := F1 220 k (by first | (simp [fr_S_undo]; done) | (unfold fr_S_undo; omega)); have b2 := F2 5 k (by first | (simp [fr_M_undo]; done) | (unfold fr_M_undo; omega)); have d2 := F2 220 k (by first | (simp [fr_M_undo]; done) | (unfold fr_M_undo; omega)); omega), (fun q => zRw_nk (fun k => by rw [F2 50 k (by first | (simp [fr_M_undo]; done) | (unfold fr_M_undo; omega)), F1 50 k (by first | (simp [fr_S_undo]; done) | (unfold fr_S_undo; omega))]) (fun k => by rw [F2 250 k (by first | (simp [fr_M_undo]; done) | (unfold fr_M_undo; omega)), F1 250 k (by first | (simp [fr_S_undo]; done) | (unfold fr_S_undo; omega))]) (R13 (by omega))), (fun k k0 k1 => by have a5 := R14 k k0 k1; try dsimp only at a5; try dsimp only; try simp only [Int.zero_add] at a5; try simp only [Int.zero_add]; have b1 := (p1_1 R21).2.2.1 k k0 k1; have d1 := F1 218 k (by first | (simp [fr_S_undo]; done) | (unfold fr_S_undo; omega)); have b2 := F2 3 k (by first | (simp [fr_M_undo]; done) | (unfold fr_M_undo; omega)); have d2 := F2 218 k (by first | (simp [fr_M_undo]; done) | (unfold fr_M_undo; omega)); omega), (fun q => zRw_nk (fun k => by rw [F2 48 k (by first | (simp [fr_M_undo]; done) | (unfold fr_M_undo; omega)), F1 48 k (by first | (simp [fr_S_undo]; done) | (unfold fr_S_undo; omega))]) (fun k => by rw [F2 250 k (by first | (simp [fr_M_undo]; done) | (unfold fr_M_undo; omega)), F1 250 k (by first | (simp [fr_S_undo]; done) | (unfold fr_S_undo; omega))]) (R15 (by omega))), (fun k k0 k1 => by have a5 := R16 k k0 k1; try dsimp only at a5; try dsimp only; try simp only [Int.zero_add] at a5; try simp only [Int.zero_add]; have b1 := (p1_1 R21).2.2.2.1 k k0 k1; have d1 := F1 219 k (by first | (simp [fr_S_undo]; done) | (unfold fr_S_undo; omega)); have b2 := F2 4 k (by first | (simp [fr_M_undo]; done) | (unfold fr_M_undo; omega)); have d2 := F2 219 k (by first | (simp [fr_M_undo]; done) | (unfold fr_M_undo; omega)); omega), (fun q => zRw_nk (fun k => by rw [F2 49 k (by first | (simp [fr_M_undo]; done) | (unfold fr_M_undo; omega)), F1 49 k (by first | (simp [fr_S_undo]; done) | (unfold fr_S_undo; omega))]) (fun k => by rw [F2 250 k (by first | (simp [fr_M_undo]; done) | (unfold fr_M_undo; omega)), F1 250 k (by first | (simp [fr_S_undo]; done) | (unfold fr_S_undo; omega))]) (R17 (by omega))), (zLW_n R18 (show 0 ≤ g 224 0 ∧ g 224 0 ≤ 16 from I.1 224 0).2 (fun a i h => (F2 a i (zbg_M_undoFlw h)).trans (F1 a i (zbg_S_undoFlw h)))), (fun q => zLWk_n (R19 (by omega)) (fun a i h => (F2 a i (zbg_M_undoFlk h)).trans (F1 a i (zbg_S_undoFlk h)))), zf2_, Z2⟩
