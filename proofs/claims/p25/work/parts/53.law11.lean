-- by program (wip/gen/mklaw.py)
theorem zpf_S_latin {a : Nat} {i : Int} (hc : zPc a i) : ¬ fr_S_latin a i := fun w => by
  unfold fr_S_latin at w
  unfold zPc at hc
  omega
theorem zpf_M_latin {a : Nat} {i : Int} (hc : zPc a i) : ¬ fr_M_latin a i := fun w => by
  have ha := zPc_le hc
  unfold fr_M_latin at w
  clear hc
  omega
theorem zbg_M_latinFt {a : Nat} {i : Int} (h : zFt a i) : ¬ fr_M_latin a i := fun w => by
  unfold fr_M_latin at w
  unfold zFt at h
  omega
theorem zbg_S_latinFt {a : Nat} {i : Int} (h : zFt a i) : ¬ fr_S_latin a i := fun w => by
  unfold fr_S_latin at w
  unfold zFt at h
  omega
theorem zbg_M_latinFc {a : Nat} {i : Int} (h : zFc a i) : ¬ fr_M_latin a i := fun w => by
  unfold fr_M_latin at w
  unfold zFc at h
  omega
theorem zbg_S_latinFc {a : Nat} {i : Int} (h : zFc a i) : ¬ fr_S_latin a i := fun w => by
  unfold fr_S_latin at w
  unfold zFc at h
  omega
theorem zbg_M_latinFlw {a : Nat} {i : Int} (h : zFlw a i) : ¬ fr_M_latin a i := fun w => by
  unfold fr_M_latin at w
  unfold zFlw at h
  omega
theorem zbg_S_latinFlw {a : Nat} {i : Int} (h : zFlw a i) : ¬ fr_S_latin a i := fun w => by
  unfold fr_S_latin at w
  unfold zFlw at h
  omega
theorem zbg_M_latinFlk {a : Nat} {i : Int} (h : zFlk a i) : ¬ fr_M_latin a i := fun w => by
  unfold fr_M_latin at w
  unfold zFlk at h
  omega
theorem zbg_S_latinFlk {a : Nat} {i : Int} (h : zFlk a i) : ¬ fr_S_latin a i := fun w => by
  unfold fr_S_latin at w
  unfold zFlk at h
  omega
theorem zbg_M_latinFe {a : Nat} {i : Int} (h : zFe a i) : ¬ fr_M_latin a i := fun w => by
  unfold fr_M_latin at w
  unfold zFe at h
  omega
theorem zbg_S_latinFe {a : Nat} {i : Int} (h : zFe a i) : ¬ fr_S_latin a i := fun w => by
  unfold fr_S_latin at w
  unfold zFe at h
  omega
set_option maxRecDepth 100000 in
set_option maxHeartbeats 4000000 in
theorem zw_c24 {E : sx_E} {i : Int} {g : zi_M} (hL : sx_Ln E ≤ 3072) (h0 : 0 ≤ i) (h6 : i + 6 ≤ ((sx_Ln E : Nat) : Int)) (R : zw_R g) (k : ∀ g' : zi_M, zw_R g' → zi_W E 420 326 1356 [some (.ref 1000000000), some (.ref 0), some (.ref 214), some (zi_i i)] [] g' zw_Q) : zi_W E 420 326 952 [some (.ref 1000000000), some (.ref 0), some (.ref 214), some (zi_i i)] [] g zw_Q := by
  obtain ⟨I, R0, R1, R2, R3, R4, R5, R6, R7, R8, R9, R10, R11, R12, R13, R14, R15, R16, R17, R18, R19, R20, R21⟩ := R
  refine zi_aload_n (pc' := 953) rfl rfl rfl ?_
  refine zi_aload_n (pc' := 954) rfl rfl rfl ?_
  refine zi_iload_n (pc' := 955) rfl rfl rfl ?_
  refine zi_iconst (pc' := 956) rfl rfl ?_
  refine zi_iadd (pc' := 957) rfl rfl ?_
  refine zi_xald (pc' := 958) rfl rfl hL ⟨by omega, by omega⟩ ?_
  refine zi_aload_n (pc' := 959) rfl rfl rfl ?_
  refine zi_iload_n (pc' := 960) rfl rfl rfl ?_
  refine zi_iconst (pc' := 961) rfl rfl ?_
  refine zi_iadd (pc' := 962) rfl rfl ?_
  refine zi_xald (pc' := 963) rfl rfl hL ⟨by omega, by omega⟩ ?_
  refine zi_callV (d' := 2) (as := [_, _]) (pc' := 966) rfl rfl rfl rfl (by decide) (s_S_latin (Q := fun v g' => zk_I g' ∧ zk_fr fr_S_latin g g') (Nat.le_refl _) (k_S_latin I (zw_r _ _) (zw_r _ _) (fun v g' I' F' h0 h1 h2 h3 => ⟨I', F'⟩))) (zi_kb (fun v1 g1 b1 h1 => ?_))
  obtain ⟨I1, F1⟩ := h1
  have c1_0_2 : g1 0 2 = g 0 2 := F1 0 2 (by first | (simp [fr_S_latin]; done) | (unfold fr_S_latin; omega))
  have c1_0_8 : g1 0 8 = g 0 8 := F1 0 8 (by first | (simp [fr_S_latin]; done) | (unfold fr_S_latin; omega))
  have c1_2_8 : g1 2 8 = g 2 8 := F1 2 8 (by first | (simp [fr_S_latin]; done) | (unfold fr_S_latin; omega))
  have c1_2_11 : g1 2 11 = g 2 11 := F1 2 11 (by first | (simp [fr_S_latin]; done) | (unfold fr_S_latin; omega))
  have c1_47_8 : g1 47 8 = g 47 8 := F1 47 8 (by first | (simp [fr_S_latin]; done) | (unfold fr_S_latin; omega))
  have c1_47_11 : g1 47 11 = g 47 11 := F1 47 11 (by first | (simp [fr_S_latin]; done) | (unfold fr_S_latin; omega))
  have c1_214_6 : g1 214 6 = g 214 6 := F1 214 6 (by first | (simp [fr_S_latin]; done) | (unfold fr_S_latin; omega))
  have c1_214_7 : g1 214 7 = g 214 7 := F1 214 7 (by first | (simp [fr_S_latin]; done) | (unfold fr_S_latin; omega))
  have c1_214_13 : g1 214 13 = g 214 13 := F1 214 13 (by first | (simp [fr_S_latin]; done) | (unfold fr_S_latin; omega))
  have c1_214_62 : g1 214 62 = g 214 62 := F1 214 62 (by first | (simp [fr_S_latin]; done) | (unfold fr_S_latin; omega))
  have c1_250_264 : g1 250 264 = g 250 264 := F1 250 264 (by first | (simp [fr_S_latin]; done) | (unfold fr_S_latin; omega))
  have c1_250_265 : g1 250 265 = g 250 265 := F1 250 265 (by first | (simp [fr_S_latin]; done) | (unfold fr_S_latin; omega))
  have Z1 : zP g1 := zP_eq (fun a i hc => F1 a i (zpf_S_latin hc)) R21
  refine zi_pop (pc' := 967) rfl rfl rfl ?_
  refine zi_aload_n (pc' := 968) rfl rfl rfl ?_
  refine zi_aload_n (pc' := 969) rfl rfl rfl ?_
  refine zi_iload_n (pc' := 970) rfl rfl rfl ?_
  refine zi_iconst (pc' := 971) rfl rfl ?_
  refine zi_iadd (pc' := 972) rfl rfl ?_
  refine zi_xald (pc' := 973) rfl rfl hL ⟨by omega, by omega⟩ ?_
  refine zi_aload_n (pc' := 974) rfl rfl rfl ?_
  refine zi_iload_n (pc' := 975) rfl rfl rfl ?_
  refine zi_iconst (pc' := 976) rfl rfl ?_
  refine zi_iadd (pc' := 977) rfl rfl ?_
  refine zi_xald (pc' := 978) rfl rfl hL ⟨by omega, by omega⟩ ?_
  refine zi_callV (d' := 2) (as := [_, _]) (pc' := 981) rfl rfl rfl rfl (by decide) (s_M_latin (Q := fun v g' => zk_I g' ∧ zk_fr fr_M_latin g1 g') (Nat.le_refl _) (k_M_latin I1 (zw_r _ _) (zw_r _ _) (fun v g' I' F' h0 h1 h2 h3 => ⟨I', F'⟩))) (zi_kb (fun v2 g2 b2 h2 => ?_))
  obtain ⟨I2, F2⟩ := h2
  have c2_0_2 : g2 0 2 = g1 0 2 := F2 0 2 (by first | (simp [fr_M_latin]; done) | (unfold fr_M_latin; omega))
  have c2_0_8 : g2 0 8 = g1 0 8 := F2 0 8 (by first | (simp [fr_M_latin]; done) | (unfold fr_M_latin; omega))
  have c2_2_8 : g2 2 8 = g1 2 8 := F2 2 8 (by first | (simp [fr_M_latin]; done) | (unfold fr_M_latin; omega))
  have c2_2_11 : g2 2 11 = g1 2 11 := F2 2 11 (by first | (simp [fr_M_latin]; done) | (unfold fr_M_latin; omega))
  have c2_47_8 : g2 47 8 = g1 47 8 := F2 47 8 (by first | (simp [fr_M_latin]; done) | (unfold fr_M_latin; omega))
  have c2_47_11 : g2 47 11 = g1 47 11 := F2 47 11 (by first | (simp [fr_M_latin]; done) | (unfold fr_M_latin; omega))
  have c2_214_6 : g2 214 6 = g1 214 6 := F2 214 6 (by first | (simp [fr_M_latin]; done) | (unfold fr_M_latin; omega))
  have c2_214_7 : g2 214 7 = g1 214 7 := F2 214 7 (by first | (simp [fr_M_latin]; done) | (unfold fr_M_latin; omega))
  have c2_214_13 : g2 214 13 = g1 214 13 := F2 214 13 (by first | (simp [fr_M_latin]; done) | (unfold fr_M_latin; omega))
  have c2_214_62 : g2 214 62 = g1 214 62 := F2 214 62 (by first | (simp [fr_M_latin]; done) | (unfold fr_M_latin; omega))
  have c2_250_264 : g2 250 264 = g1 250 264 := F2 250 264 (by first | (simp [fr_M_latin]; done) | (unfold fr_M_latin; omega))
  have c2_250_265 : g2 250 265 = g1 250 265 := F2 250 265 (by first | (simp [fr_M_latin]; done) | (unfold fr_M_latin; omega))
  have Z2 : zP g2 := zP_eq (fun a i hc => F2 a i (zpf_M_latin hc)) Z1
  refine zi_pop (pc' := 982) rfl rfl rfl ?_
  refine zi_goto (x := 1356) rfl ?_
  exact k _ ⟨I2, (by rw [c2_0_2, c1_0_2, c2_214_62, c1_214_62]; exact R0), (by rw [c2_0_8, c1_0_8, c2_214_13, c1_214_13]; exact R1), (funext fun k => by rw [F2 190 k (by first | (simp [fr_M_latin]; done) | (unfold fr_M_latin; omega)), F1 190 k (by first | (simp [fr_S_latin]; done) | (unfold fr_S_latin; omega)), F2 222 k (by first | (simp [fr_M_latin]; done) | (unfold fr_M_latin; omega)), F1 222 k (by first | (simp [fr_S_latin]; done) | (unfold fr_S_latin; omega))]; exact congrFun R2 k), (by rw [c2_2_8, c1_2_8, c2_214_6, c1_214_6]; exact R3), (fun q => by rw [c2_47_8, c1_47_8, c2_250_264, c1_250_264]; exact R4 (by rw [c2_0_2, c1_0_2] at q; exact q)), (by rw [c2_2_11, c1_2_11, c2_214_7, c1_214_7]; exact R5), (fun q => by rw [c2_47_11, c1_47_11, c2_250_265, c1_250_265]; exact R6 (by rw [c2_0_2, c1_0_2] at q; exact q)), (zXw_n R7 (by rw [F2 19 5 (by first | (simp [fr_M_latin]; done) | (unfold fr_M_latin; omega)), F1 19 5 (by first | (simp [fr_S_latin]; done) | (unfold fr_S_latin; omega))]) (by rw [F2 214 37 (by first | (simp [fr_M_latin]; done) | (unfold fr_M_latin; omega)), F1 214 37 (by first | (simp [fr_S_latin]; done) | (unfold fr_S_latin; omega))]) (fun k => by rw [F2 30 k (by first | (simp [fr_M_latin]; done) | (unfold fr_M_latin; omega)), F1 30 k (by first | (simp [fr_S_latin]; done) | (unfold fr_S_latin; omega))]) (fun k => by rw [F2 31 k (by first | (simp [fr_M_latin]; done) | (unfold fr_M_latin; omega)), F1 31 k (by first | (simp [fr_S_latin]; done) | (unfold fr_S_latin; omega))]) (fun k _ => by rw [F2 233 k (by first | (simp [fr_M_latin]; done) | (unfold fr_M_latin; omega)), F1 233 k (by first | (simp [fr_S_latin]; done) | (unfold fr_S_latin; omega))]) (show 0 ≤ g 19 5 ∧ g 19 5 ≤ 16 from I.1 19 5).2), (fun q => zXwk_n (R8 (by omega)) (by rw [F2 64 5 (by first | (simp [fr_M_latin]; done) | (unfold fr_M_latin; omega)), F1 64 5 (by first | (simp [fr_S_latin]; done) | (unfold fr_S_latin; omega))]) (fun k => by rw [F2 75 k (by first | (simp [fr_M_latin]; done) | (unfold fr_M_latin; omega)), F1 75 k (by first | (simp [fr_S_latin]; done) | (unfold fr_S_latin; omega))]) (fun k => by rw [F2 76 k (by first | (simp [fr_M_latin]; done) | (unfold fr_M_latin; omega)), F1 76 k (by first | (simp [fr_S_latin]; done) | (unfold fr_S_latin; omega))]) (fun k => by rw [F2 250 k (by first | (simp [fr_M_latin]; done) | (unfold fr_M_latin; omega)), F1 250 k (by first | (simp [fr_S_latin]; done) | (unfold fr_S_latin; omega))])), (zXg_n R9 (by rw [F2 19 2 (by first | (simp [fr_M_latin]; done) | (unfold fr_M_latin; omega)), F1 19 2 (by first | (simp [fr_S_latin]; done) | (unfold fr_S_latin; omega))]) (by rw [F2 214 35 (by first | (simp [fr_M_latin]; done) | (unfold fr_M_latin; omega)), F1 214 35 (by first | (simp [fr_S_latin]; done) | (unfold fr_S_latin; omega))]) (fun k => by rw [F2 29 k (by first | (simp [fr_M_latin]; done) | (unfold fr_M_latin; omega)), F1 29 k (by first | (simp [fr_S_latin]; done) | (unfold fr_S_latin; omega))]) (fun k _ => by rw [F2 232 k (by first | (simp [fr_M_latin]; done) | (unfold fr_M_latin; omega)), F1 232 k (by first | (simp [fr_S_latin]; done) | (unfold fr_S_latin; omega))])), (fun q => zXgk_n (R10 (by omega)) (by rw [F2 64 2 (by first | (simp [fr_M_latin]; done) | (unfold fr_M_latin; omega)), F1 64 2 (by first | (simp [fr_S_latin]; done) | (unfold fr_S_latin; omega))]) (fun k => by rw [F2 74 k (by first | (simp [fr_M_latin]; done) | (unfold fr_M_latin; omega)), F1 74 k (by first | (simp [fr_S_latin]; done) | (unfold fr_S_latin; omega))]) (fun k => by rw [F2 250 k (by first | (simp [fr_M_latin]; done) | (unfold fr_M_latin; omega)), F1 250 k (by first | (simp [fr_S_latin]; done) | (unfold fr_S_latin; omega))])), (zBD_n R11 (fun a i h => (F2 a i (zbg_M_latinFt h)).trans (F1 a i (zbg_S_latinFt h))) (fun a i h => (F2 a i (zbg_M_latinFc h)).trans (F1 a i (zbg_S_latinFc h)))), (zRw_n (fun k => by rw [F2 5 k (by first | (simp [fr_M_latin]; done) | (unfold fr_M_latin; omega)), F1 5 k (by first | (simp [fr_S_latin]; done) | (unfold fr_S_latin; omega))]) (fun k => by rw [F2 220 k (by first | (simp [fr_M_latin]; done) | (unfold fr_M_latin; omega)), F1 220 k (by first | (simp [fr_S_latin]; done) | (unfold fr_S_latin; omega))]) R12), (fun q => zRw_nk (fun k => by rw [F2 50 k (by first | (simp [fr_M_latin]; done) | (unfold fr_M_latin; omega)), F1 50 k (by first | (simp [fr_S_latin]; done) | (unfold fr_S_latin; omega))]) (fun k => by rw [F2 250 k (by first | (simp [fr_M_latin]; done) | (unfold fr_M_latin; omega)), F1 250 k (by first | (simp [fr_S_latin]; done) | (unfold fr_S_latin; omega))]) (R13 (by omega))), (zRw_n (fun k => by rw [F2 3 k (by first | (simp [fr_M_latin]; done) | (unfold fr_M_latin; omega)), F1 3 k (by first | (simp [fr_S_latin]; done) | (unfold fr_S_latin; omega))]) (fun k => by rw [F2 218 k (by first | (simp [fr_M_latin]; done) | (unfold fr_M_latin; omega)), F1 218 k (by first | (simp [fr_S_latin]; done) | (unfold fr_S_latin; omega))]) R14), (fun q => zRw_nk (fun k => by rw [F2 48 k (by first | (simp [fr_M_latin]; done) | (unfold fr_M_latin; omega)), F1 48 k (by first | (simp [fr_S_latin]; done) | (unfold fr_S_latin; omega))]) (fun k => by rw [F2 250 k (by first | (simp [fr_M_latin]; done) | (unfold fr_M_latin; omega)), F1 250 k (by first | (simp [fr_S_latin]; done) | (unfold fr_S_latin; omega))]) (R15 (by omega))), (zRw_n (fun k => by rw [F2 4 k (by first | (simp [fr_M_latin]; done) | (unfold fr_M_latin; omega)), F1 4 k (by first | (simp [fr_S_latin]; done) | (unfold fr_S_latin; omega))]) (fun k => by rw [F2 219 k (by first | (simp [fr_M_latin]; done) | (unfold fr_M_latin; omega)), F1 219 k (by first | (simp [fr_S_latin]; done) | (unfold fr_S_latin; omega))]) R16), (fun q => zRw_nk (fun k => by rw [F2 49 k (by first | (simp [fr_M_latin]; done) | (unfold fr_M_latin; omega)), F1 49 k (by first | (simp [fr_S_latin]; done) | (unfold fr_S_latin; omega))]) (fun k => by rw [F2 250 k (by first | (simp [fr_M_latin]; done) | (unfold fr_M_latin; omega)), F1 250 k (by first | (simp [fr_S_latin]; done) | (unfold fr_S_latin; omega))]) (R17 (by omega))), (zLW_n R18 (show 0 ≤ g 224 0 ∧ g 224 0 ≤ 16 from I.1 224 0).2 (fun a i h => (F2 a i (zbg_M_latinFlw h)).trans (F1 a i (zbg_S_latinFlw h)))), (fun q => zLWk_n (R19 (by omega)) (fun a i h => (F2 a i (zbg_M_latinFlk h)).trans (F1 a i (zbg_S_latinFlk h)))), (zFD_n R20 (fun a i h => (F2 a i (zbg_M_latinFe h)).trans (F1 a i (zbg_S_latinFe h)))), Z2⟩
theorem zpf_M_again {a : Nat} {i : Int} (hc : zPc a i) : ¬ fr_M_again a i := fun w => by
  have ha := zPc_le hc
  unfold fr_M_again at w
  clear hc
  omega
theorem zbg_M_againFt {a : Nat} {i : Int} (h : zFt a i) : ¬ fr_M_again a i := fun w => by
  unfold fr_M_again at w
  unfold zFt at h
  omega
theorem zbg_M_againFc {a : Nat} {i : Int} (h : zFc a i) : ¬ fr_M_again a i := fun w => by
  unfold fr_M_again at w
  unfold zFc at h
  omega
theorem zbg_M_againFlw {a : Nat} {i : Int} (h : zFlw a i) : ¬ fr_M_again a i := fun w => by
  unfold fr_M_again at w
  unfold zFlw at h
  omega
theorem zbg_M_againFlk {a : Nat} {i : Int} (h : zFlk a i) : ¬ fr_M_again a i := fun w => by
  unfold fr_M_again at w
  unfold zFlk at h
  omega
theorem zbg_M_againFe {a : Nat} {i : Int} (h : zFe a i) : ¬ fr_M_again a i := fun w => by
  unfold fr_M_again at w
  unfold zFe at h
  omega
set_option maxRecDepth 100000 in
set_option maxHeartbeats 4000000 in
theorem zw_c25 {E : sx_E} {i : Int} {g : zi_M} (hL : sx_Ln E ≤ 3072) (h0 : 0 ≤ i) (h6 : i + 6 ≤ ((sx_Ln E : Nat) : Int)) (R : zw_R g) (k : ∀ g' : zi_M, zw_R g' → zi_W E 420 326 1356 [some (.ref 1000000000), some (.ref 0), some (.ref 214), some (zi_i i)] [] g' zw_Q) : zi_W E 420 326 985 [some (.ref 1000000000), some (.ref 0), some (.ref 214), some (zi_i i)] [] g zw_Q := by
  obtain ⟨I, R0, R1, R2, R3, R4, R5, R6, R7, R8, R9, R10, R11, R12, R13, R14, R15, R16, R17, R18, R19, R20, R21⟩ := R
  refine zi_aload_n (pc' := 986) rfl rfl rfl ?_
  refine zi_aload_n (pc' := 987) rfl rfl rfl ?_
  refine zi_iload_n (pc' := 988) rfl rfl rfl ?_
  refine zi_iconst (pc' := 989) rfl rfl ?_
  refine zi_iadd (pc' := 990) rfl rfl ?_
  refine zi_xald (pc' := 991) rfl rfl hL ⟨by omega, by omega⟩ ?_
  refine zi_callV (d' := 3) (as := [_]) (pc' := 994) rfl rfl rfl rfl (by decide) (s_S_again (Q := fun v g' => g' = g) (Nat.le_refl _) (k_S_again I (zw_r _ _) (by intros; rfl))) (zi_ki (fun v1 g1 h1 => ?_))
  have E1 : g1 = g := h1
  rw [E1]
  refine zi_pop (pc' := 995) rfl rfl rfl ?_
  refine zi_aload_n (pc' := 996) rfl rfl rfl ?_
  refine zi_aload_n (pc' := 997) rfl rfl rfl ?_
  refine zi_iload_n (pc' := 998) rfl rfl rfl ?_
  refine zi_iconst (pc' := 999) rfl rfl ?_
  refine zi_iadd (pc' := 1000) rfl rfl ?_
  refine zi_xald (pc' := 1001) rfl rfl hL ⟨by omega, by omega⟩ ?_
  refine zi_callV (d' := 3) (as := [_]) (pc' := 1004) rfl rfl rfl rfl (by decide) (s_M_again (Q := fun v g' => zk_I g' ∧ zk_fr fr_M_again g g') (Nat.le_refl _) (k_M_again I (zw_r _ _) (fun v g' I' F' h0 h1 h2 h3 h4 => ⟨I', F'⟩))) (zi_ki (fun v2 g2 h2 => ?_))
  obtain ⟨I2, F2⟩ := h2
  have c2_0_2 : g2 0 2 = g 0 2 := F2 0 2 (by first | (simp [fr_M_again]; done) | (unfold fr_M_again; omega))
  have c2_0_8 : g2 0 8 = g 0 8 := F2 0 8 (by first | (simp [fr_M_again]; done) | (unfold fr_M_again; omega))
  have c2_2_8 : g2 2 8 = g 2 8 := F2 2 8 (by first | (simp [fr_M_again]; done) | (unfold fr_M_again; omega))
  have c2_2_11 : g2 2 11 = g 2 11 := F2 2 11 (by first | (simp [fr_M_again]; done) | (unfold fr_M_again; omega))
  have c2_47_8 : g2 47 8 = g 47 8 := F2 47 8 (by first | (simp [fr_M_again]; done) | (unfold fr_M_again; omega))
  have c2_47_11 : g2 47 11 = g 47 11 := F2 47 11 (by first | (simp [fr_M_again]; done) | (unfold fr_M_again; omega))
  have c2_214_6 : g2 214 6 = g 214 6 := F2 214 6 (by first | (simp [fr_M_again]; done) | (unfold fr_M_again; omega))
  have c2_214_7 : g2 214 7 = g 214 7 := F2 214 7 (by first | (simp [fr_M_again]; done) | (unfold fr_M_again; omega))
  have c2_214_13 : g2 214 13 = g 214 13 := F2 214 13 (by first | (simp [fr_M_again]; done) | (unfold fr_M_again; omega))
  have c2_214_62 : g2 214 62 = g 214 62 := F2 214 62 (by first | (simp [fr_M_again]; done) | (unfold fr_M_again; omega))
  have c2_250_264 : g2 250 264 = g 250 264 := F2 250 264 (by first | (simp [fr_M_again]; done) | (unfold fr_M_again; omega))
  have c2_250_265 : g2 250 265 = g 250 265 := F2 250 265 (by first | (simp [fr_M_again]; done) | (unfold fr_M_again; omega))
  have Z2 : zP g2 := zP_eq (fun a i hc => F2 a i (zpf_M_again hc)) R21
  refine zi_pop (pc' := 1005) rfl rfl rfl ?_
  refine zi_goto (x := 1356) rfl ?_
  exact k _ ⟨I2, (by rw [c2_0_2, c2_214_62]; exact R0), (by rw [c2_0_8, c2_214_13]; exact R1), (funext fun k => by rw [F2 190 k (by first | (simp [fr_M_again]; done) | (unfold fr_M_again; omega)), F2 222 k (by first | (simp [fr_M_again]; done) | (unfold fr_M_again; omega))]; exact congrFun R2 k), (by rw [c2_2_8, c2_214_6]; exact R3), (fun q => by rw [c2_47_8, c2_250_264]; exact R4 (by rw [c2_0_2] at q; exact q)), (by rw [c2_2_11, c2_214_7]; exact R5), (fun q => by rw [c2_47_11, c2_250_265]; exact R6 (by rw [c2_0_2] at q; exact q)), (zXw_n R7 (by rw [F2 19 5 (by first | (simp [fr_M_again]; done) | (unfold fr_M_again; omega))]) (by rw [F2 214 37 (by first | (simp [fr_M_again]; done) | (unfold fr_M_again; omega))]) (fun k => by rw [F2 30 k (by first | (simp [fr_M_again]; done) | (unfold fr_M_again; omega))]) (fun k => by rw [F2 31 k (by first | (simp [fr_M_again]; done) | (unfold fr_M_again; omega))]) (fun k _ => by rw [F2 233 k (by first | (simp [fr_M_again]; done) | (unfold fr_M_again; omega))]) (show 0 ≤ g 19 5 ∧ g 19 5 ≤ 16 from I.1 19 5).2), (fun q => zXwk_n (R8 (by omega)) (by rw [F2 64 5 (by first | (simp [fr_M_again]; done) | (unfold fr_M_again; omega))]) (fun k => by rw [F2 75 k (by first | (simp [fr_M_again]; done) | (unfold fr_M_again; omega))]) (fun k => by rw [F2 76 k (by first | (simp [fr_M_again]; done) | (unfold fr_M_again; omega))]) (fun k => by rw [F2 250 k (by first | (simp [fr_M_again]; done) | (unfold fr_M_again; omega))])), (zXg_n R9 (by rw [F2 19 2 (by first | (simp [fr_M_again]; done) | (unfold fr_M_again; omega))]) (by rw [F2 214 35 (by first | (simp [fr_M_again]; done) | (unfold fr_M_again; omega))]) (fun k => by rw [F2 29 k (by first | (simp [fr_M_again]; done) | (unfold fr_M_again; omega))]) (fun k _ => by rw [F2 232 k (by first | (simp [fr_M_again]; done) | (unfold fr_M_again; omega))])), (fun q => zXgk_n (R10 (by omega)) (by rw [F2 64 2 (by first | (simp [fr_M_again]; done) | (unfold fr_M_again; omega))]) (fun k => by rw [F2 74 k (by first | (simp [fr_M_again]; done) | (unfold fr_M_again; omega))]) (fun k => by rw [F2 250 k (by first | (simp [fr_M_again]; done) | (unfold fr_M_again; omega))])), (zBD_n R11 (fun a i h => (F2 a i (zbg_M_againFt h))) (fun a i h => (F2 a i (zbg_M_againFc h)))), (zRw_n (fun k => by rw [F2 5 k (by first | (simp [fr_M_again]; done) | (unfold fr_M_again; omega))]) (fun k => by rw [F2 220 k (by first | (simp [fr_M_again]; done) | (unfold fr_M_again; omega))]) R12), (fun q => zRw_nk (fun k => by rw [F2 50 k (by first | (simp [fr_M_again]; done) | (unfold fr_M_again; omega))]) (fun k => by rw [F2 250 k (by first | (simp [fr_M_again]; done) | (unfold fr_M_again; omega))]) (R13 (by omega))), (zRw_n (fun k => by rw [F2 3 k (by first | (simp [fr_M_again]; done) | (unfold fr_M_again; omega))]) (fun k => by rw [F2 218 k (by first | (simp [fr_M_again]; done) | (unfold fr_M_again; omega))]) R14), (fun q => zRw_nk (fun k => by rw [F2 48 k (by first | (simp [fr_M_again]; done) | (unfold fr_M_again; omega))]) (fun k => by rw [F2 250 k (by first | (simp [fr_M_again]; done) | (unfold fr_M_again; omega))]) (R15 (by omega))), (zRw_n (fun k => by rw [F2 4 k (by first | (simp [fr_M_again]; done) | (unfold fr_M_again; omega))]) (fun k => by rw [F2 219 k (by first | (simp [fr_M_again]; done) | (unfold fr_M_again; omega))]) R16), (fun q => zRw_nk (fun k => by rw [F2 49 k (by first | (simp [fr_M_again]; done) | (unfold fr_M_again; omega))]) (fun k => by rw [F2 250 k (by first | (simp [fr_M_again]; done) | (unfold fr_M_again; omega))]) (R17 (by omega))), (zLW_n R18 (show 0 ≤ g 224 0 ∧ g 224 0 ≤ 16 from I.1 224 0).2 (fun a i h => (F2 a i (zbg_M_againFlw h)))), (fun q => zLWk_n (R19 (by omega)) (fun a i h => (F2 a i (zbg_M_againFlk h)))), (zFD_n R20 (fun a i h => (F2 a i (zbg_M_againFe h)))), Z2⟩
theorem zpf_S_mason {a : Nat} {i : Int} (hc : zPc a i) : ¬ fr_S_mason a i := fun w => by
  unfold fr_S_mason at w
  unfold zPc at hc
  omega
theorem zpf_M_mason {a : Nat} {i : Int} (hc : zPc a i) : ¬ fr_M_mason a i := fun w => by
  have ha := zPc_le hc
  unfold fr_M_mason at w
  clear hc
  omega
theorem zbg_M_masonFt {a : Nat} {i : Int} (h : zFt a i) : ¬ fr_M_mason a i := fun w => by
  unfold fr_M_mason at w
  unfold zFt at h
  omega
theorem zbg_S_masonFt {a : Nat} {i : Int} (h : zFt a i) : ¬ fr_S_mason a i := fun w => by
  unfold fr_S_mason at w
  unfold zFt at h
  omega
theorem zbg_M_masonFc {a : Nat} {i : Int} (h : zFc a i) : ¬ fr_M_mason a i := fun w => by
  unfold fr_M_mason at w
  unfold zFc at h
  omega
theorem zbg_S_masonFc {a : Nat} {i : Int} (h : zFc a i) : ¬ fr_S_mason a i := fun w => by
  unfold fr_S_mason at w
  unfold zFc at h
  omega
theorem zbg_M_masonFlw {a : Nat} {i : Int} (h : zFlw a i) : ¬ fr_M_mason a i := fun w => by
  unfold fr_M_mason at w
  unfold zFlw at h
  omega
theorem zbg_S_masonFlw {a : Nat} {i : Int} (h : zFlw a i) : ¬ fr_S_mason a i := fun w => by
  unfold fr_S_mason at w
  unfold zFlw at h
  omega
theorem zbg_M_masonFlk {a : Nat} {i : Int} (h : zFlk a i) : ¬ fr_M_mason a i := fun w => by
  unfold fr_M_mason at w
  unfold zFlk at h
  omega
theorem zbg_S_masonFlk {a : Nat} {i : Int} (h : zFlk a i) : ¬ fr_S_mason a i := fun w => by
  unfold fr_S_mason at w
  unfold zFlk at h
  omega
theorem zbg_M_masonFe {a : Nat} {i : Int} (h : zFe a i) : ¬ fr_M_mason a i := fun w => by
  unfold fr_M_mason at w
  unfold zFe at h
  omega
theorem zbg_S_masonFe {a : Nat} {i : Int} (h : zFe a i) : ¬ fr_S_mason a i := fun w => by
  unfold fr_S_mason at w
  unfold zFe at h
  omega
set_option maxRecDepth 100000 in
set_option maxHeartbeats 4000000 in
theorem zw_c26 {E : sx_E} {i : Int} {g : zi_M} (hL : sx_Ln E ≤ 3072) (h0 : 0 ≤ i) (h6 : i + 6 ≤ ((sx_Ln E : Nat) : Int)) (R : zw_R g) (k : ∀ g' : zi_M, zw_R g' → zi_W E 420 326 1356 [some (.ref 1000000000), some (.ref 0), some (.ref 214), some (zi_i i)] [] g' zw_Q) : zi_W E 420 326 1008 [some (.ref 1000000000), some (.ref 0), some (.ref 214), some (zi_i i)] [] g zw_Q := by
  obtain ⟨I, R0, R1, R2, R3, R4, R5, R6, R7, R8, R9, R10, R11, R12, R13, R14, R15, R16, R17, R18, R19, R20, R21⟩ := R
  refine zi_aload_n (pc' := 1009) rfl rfl rfl ?_
  refine zi_aload_n (pc' := 1010) rfl rfl rfl ?_
  refine zi_iload_n (pc' := 1011) rfl rfl rfl ?_
  refine zi_iconst (pc' := 1012) rfl rfl ?_
  refine zi_iadd (pc' := 1013) rfl rfl ?_
  refine zi_xald (pc' := 1014) rfl rfl hL ⟨by omega, by omega⟩ ?_
  refine zi_aload_n (pc' := 1015) rfl rfl rfl ?_
  refine zi_iload_n (pc' := 1016) rfl rfl rfl ?_
  refine zi_iconst (pc' := 1017) rfl rfl ?_
  refine zi_iadd (pc' := 1018) rfl rfl ?_
  refine zi_xald (pc' := 1019) rfl rfl hL ⟨by omega, by omega⟩ ?_
  have Jq1 : ∀ q1 : Int, (0 ≤ q1 ∧ q1 ≤ 1) → ((zw_s E (i + 2)) = 0 → q1 = 0) → (¬ (zw_s E (i + 2)) = 0 → q1 = 1) → zi_W E 420 326 1027 [some (.ref 1000000000), some (.ref 0), some (.ref 214), some (zi_i i)] (zi_i q1 :: zi_i (zw_s E (i + 1)) :: .ref 0 :: []) g zw_Q := by
    intro q1 hq1 hq1z hq1o
    refine zi_aload_n (pc' := 1028) rfl rfl rfl ?_
    refine zi_iload_n (pc' := 1029) rfl rfl rfl ?_
    refine zi_iconst (pc' := 1030) rfl rfl ?_
    refine zi_iadd (pc' := 1031) rfl rfl ?_
    refine zi_xald (pc' := 1032) rfl rfl hL ⟨by omega, by omega⟩ ?_
    refine zi_callV (d' := 2) (as := [_, _, _]) (pc' := 1035) rfl rfl rfl rfl (by decide) (s_S_mason (Q := fun v g' => zk_I g' ∧ zk_fr fr_S_mason g g') (Nat.le_refl _) (k_S_mason I (zw_r _ _) hq1 (zw_r _ _) (fun v g' I' F' h0 h1 h2 h3 => ⟨I', F'⟩))) (zi_kb (fun v1 g1 b1 h1 => ?_))
    obtain ⟨I1, F1⟩ := h1
    have c1_0_2 : g1 0 2 = g 0 2 := F1 0 2 (by first | (simp [fr_S_mason]; done) | (unfold fr_S_mason; omega))
    have c1_0_8 : g1 0 8 = g 0 8 := F1 0 8 (by first | (simp [fr_S_mason]; done) | (unfold fr_S_mason; omega))
    have c1_2_8 : g1 2 8 = g 2 8 := F1 2 8 (by first | (simp [fr_S_mason]; done) | (unfold fr_S_mason; omega))
    have c1_2_11 : g1 2 11 = g 2 11 := F1 2 11 (by first | (simp [fr_S_mason]; done) | (unfold fr_S_mason; omega))
    have c1_47_8 : g1 47 8 = g 47 8 := F1 47 8 (by first | (simp [fr_S_mason]; done) | (unfold fr_S_mason; omega))
    have c1_47_11 : g1 47 11 = g 47 11 := F1 47 11 (by first | (simp [fr_S_mason]; done) | (unfold fr_S_mason; omega))
    have c1_214_6 : g1 214 6 = g 214 6 := F1 214 6 (by first | (simp [fr_S_mason]; done) | (unfold fr_S_mason; omega))
    have c1_214_7 : g1 214 7 = g 214 7 := F1 214 7 (by first | (simp [fr_S_mason]; done) | (unfold fr_S_mason; omega))
    have c1_214_13 : g1 214 13 = g 214 13 := F1 214 13 (by first | (simp [fr_S_mason]; done) | (unfold fr_S_mason; omega))
    have c1_214_62 : g1 214 62 = g 214 62 := F1 214 62 (by first | (simp [fr_S_mason]; done) | (unfold fr_S_mason; omega))
    have c1_250_264 : g1 250 264 = g 250 264 := F1 250 264 (by first | (simp [fr_S_mason]; done) | (unfold fr_S_mason; omega))
    have c1_250_265 : g1 250 265 = g 250 265 := F1 250 265 (by first | (simp [fr_S_mason]; done) | (unfold fr_S_mason; omega))
    have Z1 : zP g1 := zP_eq (fun a i hc => F1 a i (zpf_S_mason hc)) R21
    refine zi_pop (pc' := 1036) rfl rfl rfl ?_
    refine zi_aload_n (pc' := 1037) rfl rfl rfl ?_
    refine zi_aload_n (pc' := 1038) rfl rfl rfl ?_
    refine zi_iload_n (pc' := 1039) rfl rfl rfl ?_
    refine zi_iconst (pc' := 1040) rfl rfl ?_
    refine zi_iadd (pc' := 1041) rfl rfl ?_
    refine zi_xald (pc' := 1042) rfl rfl hL ⟨by omega, by omega⟩ ?_
    refine zi_aload_n (pc' := 1043) rfl rfl rfl ?_
    refine zi_iload_n (pc' := 1044) rfl rfl rfl ?_
    refine zi_iconst (pc' := 1045) rfl rfl ?_
    refine zi_iadd (pc' := 1046) rfl rfl ?_
    refine zi_xald (pc' := 1047) rfl rfl hL ⟨by omega, by omega⟩ ?_
    have Jq2 : ∀ q2 : Int, (0 ≤ q2 ∧ q2 ≤ 1) → ((zw_s E (i + 2)) = 0 → q2 = 0) → (¬ (zw_s E (i + 2)) = 0 → q2 = 1) → zi_W E 420 326 1055 [some (.ref 1000000000), some (.ref 0), some (.ref 214), some (zi_i i)] (zi_i q2 :: zi_i (zw_s E (i + 1)) :: .ref 214 :: []) g1 zw_Q := by
      intro q2 hq2 hq2z hq2o
      refine zi_aload_n (pc' := 1056) rfl rfl rfl ?_
      refine zi_iload_n (pc' := 1057) rfl rfl rfl ?_
      refine zi_iconst (pc' := 1058) rfl rfl ?_
      refine zi_iadd (pc' := 1059) rfl rfl ?_
      refine zi_xald (pc' := 1060) rfl rfl hL ⟨by omega, by omega⟩ ?_
      refine zi_callV (d' := 3) (as := [_, _, _]) (pc' := 1063) rfl rfl rfl rfl (by decide) (s_M_mason (Q := fun v g' => zk_I g' ∧ zk_fr fr_M_mason g1 g') (Nat.le_refl _) (k_M_mason I1 (zw_r _ _) hq2 (zw_r _ _) (fun v g' I' F' h0 h1 h2 h3 => ⟨I', F'⟩))) (zi_kb (fun v2 g2 b2 h2 => ?_))
      obtain ⟨I2, F2⟩ := h2
      have c2_0_2 : g2 0 2 = g1 0 2 := F2 0 2 (by first | (simp [fr_M_mason]; done) | (unfold fr_M_mason; omega))
      have c2_0_8 : g2 0 8 = g1 0 8 := F2 0 8 (by first | (simp [fr_M_mason]; done) | (unfold fr_M_mason; omega))
      have c2_2_8 : g2 2 8 = g1 2 8 := F2 2 8 (by first | (simp [fr_M_mason]; done) | (unfold fr_M_mason; omega))
      have c2_2_11 : g2 2 11 = g1 2 11 := F2 2 11 (by first | (simp [fr_M_mason]; done) | (unfold fr_M_mason; omega))
      have c2_47_8 : g2 47 8 = g1 47 8 := F2 47 8 (by first | (simp [fr_M_mason]; done) | (unfold fr_M_mason; omega))
      have c2_47_11 : g2 47 11 = g1 47 11 := F2 47 11 (by first | (simp [fr_M_mason]; done) | (unfold fr_M_mason; omega))
      have c2_214_6 : g2 214 6 = g1 214 6 := F2 214 6 (by first | (simp [fr_M_mason]; done) | (unfold fr_M_mason; omega))
      have c2_214_7 : g2 214 7 = g1 214 7 := F2 214 7 (by first | (simp [fr_M_mason]; done) | (unfold fr_M_mason; omega))
      have c2_214_13 : g2 214 13 = g1 214 13 := F2 214 13 (by first | (simp [fr_M_mason]; done) | (unfold fr_M_mason; omega))
      have c2_214_62 : g2 214 62 = g1 214 62 := F2 214 62 (by first | (simp [fr_M_mason]; done) | (unfold fr_M_mason; omega))
      have c2_250_264 : g2 250 264 = g1 250 264 := F2 250 264 (by first | (simp [fr_M_mason]; done) | (unfold fr_M_mason; omega))
      have c2_250_265 : g2 250 265 = g1 250 265 := F2 250 265 (by first | (simp [fr_M_mason]; done) | (unfold fr_M_mason; omega))
      have Z2 : zP g2 := zP_eq (fun a i hc => F2 a i (zpf_M_mason hc)) Z1
      refine zi_pop (pc' := 1064) rfl rfl rfl ?_
      refine zi_goto (x := 1356) rfl ?_
      exact k _ ⟨I2, (by rw [c2_0_2, c1_0_2, c2_214_62, c1_214_62]; exact R0), (by rw [c2_0_8, c1_0_8, c2_214_13, c1_214_13]; exact R1), (funext fun k => by rw [F2 190 k (by first | (simp [fr_M_mason]; done) | (unfold fr_M_mason; omega)), F1 190 k (by first | (simp [fr_S_mason]; done) | (unfold fr_S_mason; omega)), F2 222 k (by first | (simp [fr_M_mason]; done) | (unfold fr_M_mason; omega)), F1 222 k (by first | (simp [fr_S_mason]; done) | (unfold fr_S_mason; omega))]; exact congrFun R2 k), (by rw [c2_2_8, c1_2_8, c2_214_6, c1_214_6]; exact R3), (fun q => by rw [c2_47_8, c1_47_8, c2_250_264, c1_250_264]; exact R4 (by rw [c2_0_2, c1_0_2] at q; exact q)), (by rw [c2_2_11, c1_2_11, c2_214_7, c1_214_7]; exact R5), (fun q => by rw [c2_47_11, c1_47_11, c2_250_265, c1_250_265]; exact R6 (by rw [c2_0_2, c1_0_2] at q; exact q)), (zXw_n R7 (by rw [F2 19 5 (by first | (simp [fr_M_mason]; done) | (unfold fr_M_mason; omega)), F1 19 5 (by first | (simp [fr_S_mason]; done) | (unfold fr_S_mason; omega))]) (by rw [F2 214 37 (by first | (simp [fr_M_mason]; done) | (unfold fr_M_mason; omega)), F1 214 37 (by first | (simp [fr_S_mason]; done) | (unfold fr_S_mason; omega))]) (fun k => by rw [F2 30 k (by first | (simp [fr_M_mason]; done) | (unfold fr_M_mason; omega)), F1 30 k (by first | (simp [fr_S_mason]; done) | (unfold fr_S_mason; omega))]) (fun k => by rw [F2 31 k (by first | (simp [fr_M_mason]; done) | (unfold fr_M_mason; omega)), F1 31 k (by first | (simp [fr_S_mason]; done) | (unfold fr_S_mason; omega))]) (fun k _ => by rw [F2 233 k (by first | (simp [fr_M_mason]; done) | (unfold fr_M_mason; omega)), F1 233 k (by first | (simp [fr_S_mason]; done) | (unfold fr_S_mason; omega))]) (show 0 ≤ g 19 5 ∧ g 19 5 ≤ 16 from I.1 19 5).2), (fun q => zXwk_n (R8 (by omega)) (by rw [F2 64 5 (by first | (simp [fr_M_mason]; done) | (unfold fr_M_mason; omega)), F1 64 5 (by first | (simp [fr_S_mason]; done) | (unfold fr_S_mason; omega))]) (fun k => by rw [F2 75 k (by first | (simp [fr_M_mason]; done) | (unfold fr_M_mason; omega)), F1 75 k (by first | (simp [fr_S_mason]; done) | (unfold fr_S_mason; omega))]) (fun k => by rw [F2 76 k (by first | (simp [fr_M_mason]; done) | (unfold fr_M_mason; omega)), F1 76 k (by first | (simp [fr_S_mason]; done) | (unfold fr_S_mason; omega))]) (fun k => by rw [F2 250 k (by first | (simp [fr_M_mason]; done) | (unfold fr_M_mason; omega)), F1 250 k (by first | (simp [fr_S_mason]; done) | (unfold fr_S_mason; omega))])), (zXg_n R9 (by rw [F2 19 2 (by first | (simp [fr_M_mason]; done) | (unfold fr_M_mason; omega)), F1 19 2 (by first | (simp [fr_S_mason]; done) | (unfold fr_S_mason; omega))]) (by rw [F2 214 35 (by first | (simp [fr_M_mason]; done) | (unfold fr_M_mason; omega)), F1 214 35 (by first | (simp [fr_S_mason]; done) | (unfold fr_S_mason; omega))]) (fun k => by rw [F2 29 k (by first | (simp [fr_M_mason]; done) | (unfold fr_M_mason; omega)), F1 29 k (by first | (simp [fr_S_mason]; done) | (unfold fr_S_mason; omega))]) (fun k _ => by rw [F2 232 k (by first | (simp [fr_M_mason]; done) | (unfold fr_M_mason; omega)), F1 232 k (by first | (simp [fr_S_mason]; done) | (unfold fr_S_mason; omega))])), (fun q => zXgk_n (R10 (by omega)) (by rw [F2 64 2 (by first | (simp [fr_M_mason]; done) | (unfold fr_M_mason; omega)), F1 64 2 (by first | (simp [fr_S_mason]; done) | (unfold fr_S_mason; omega))]) (fun k => by rw [F2 74 k (by first | (simp [fr_M_mason]; done) | (unfold fr_M_mason; omega)), F1 74 k (by first | (simp [fr_S_mason]; done) | (unfold fr_S_mason; omega))]) (fun k => by rw [F2 250 k (by first | (simp [fr_M_mason]; done) | (unfold fr_M_mason; omega)), F1 250 k (by first | (simp [fr_S_mason]; done) | (unfold fr_S_mason; omega))])), (zBD_n R11 (fun a i h => (F2 a i (zbg_M_masonFt h)).trans (F1 a i (zbg_S_masonFt h))) (fun a i h => (F2 a i (zbg_M_masonFc h)).trans (F1 a i (zbg_S_masonFc h)))), (zRw_n (fun k => by rw [F2 5 k (by first | (simp [fr_M_mason]; done) | (unfold fr_M_mason; omega)), F1 5 k (by first | (simp [fr_S_mason]; done) | (unfold fr_S_mason; omega))]) (fun k => by rw [F2 220 k (by first | (simp [fr_M_mason]; done) | (unfold fr_M_mason; omega)), F1 220 k (by first | (simp [fr_S_mason]; done) | (unfold fr_S_mason; omega))]) R12), (fun q => zRw_nk (fun k => by rw [F2 50 k (by first | (simp [fr_M_mason]; done) | (unfold fr_M_mason; omega)), F1 50 k (by first | (simp [fr_S_mason]; done) | (unfold fr_S_mason; omega))]) (fun k => by rw [F2 250 k (by first | (simp [fr_M_mason]; done) | (unfold fr_M_mason; omega)), F1 250 k (by first | (simp [fr_S_mason]; done) | (unfold fr_S_mason; omega))]) (R13 (by omega))), (zRw_n (fun k => by rw [F2 3 k (by first | (simp [fr_M_mason]; done) | (unfold fr_M_mason; omega)), F1 3 k (by first | (simp [fr_S_mason]; done) | (unfold fr_S_mason; omega))]) (fun k => by rw [F2 218 k (by first | (simp [fr_M_mason]; done) | (unfold fr_M_mason; omega)), F1 218 k (by first | (simp [fr_S_mason]; done) | (unfold fr_S_mason; omega))]) R14), (fun q => zRw_nk (fun k => by rw [F2 48 k (by first | (simp [fr_M_mason]; done) | (unfold fr_M_mason; omega)), F1 48 k (by first | (simp [fr_S_mason]; done) | (unfold fr_S_mason; omega))]) (fun k => by rw [F2 250 k (by first | (simp [fr_M_mason]; done) | (unfold fr_M_mason; omega)), F1 250 k (by first | (simp [fr_S_mason]; done) | (unfold fr_S_mason; omega))]) (R15 (by omega))), (zRw_n (fun k => by rw [F2 4 k (by first | (simp [fr_M_mason]; done) | (unfold fr_M_mason; omega)), F1 4 k (by first | (simp [fr_S_mason]; done) | (unfold fr_S_mason; omega))]) (fun k => by rw [F2 219 k (by first | (simp [fr_M_mason]; done) | (unfold fr_M_mason; omega)), F1 219 k (by first | (simp [fr_S_mason]; done) | (unfold fr_S_mason; omega))]) R16), (fun q => zRw_nk (fun k => by rw [F2 49 k (by first | (simp [fr_M_mason]; done) | (unfold fr_M_mason; omega)), F1 49 k (by first | (simp [fr_S_mason]; done) | (unfold fr_S_mason; omega))]) (fun k => by rw [F2 250 k (by first | (simp [fr_M_mason]; done) | (unfold fr_M_mason; omega)), F1 250 k (by first | (simp [fr_S_mason]; done) | (unfold fr_S_mason; omega))]) (R17 (by omega))), (zLW_n R18 (show 0 ≤ g 224 0 ∧ g 224 0 ≤ 16 from I.1 224 0).2 (fun a i h => (F2 a i (zbg_M_masonFlw h)).trans (F1 a i (zbg_S_masonFlw h)))), (fun q => zLWk_n (R19 (by omega)) (fun a i h => (F2 a i (zbg_M_masonFlk h)).trans (F1 a i (zbg_S_masonFlk h)))), (zFD_n R20 (fun a i h => (F2 a i (zbg_M_masonFe h)).trans (F1 a i (zbg_S_masonFe h)))), Z2⟩
    refine zi_if_eq (x := 1054) (pc' := 1050) rfl rfl (zw_r _ _) (fun c => ?_) (fun c => ?_)
    · refine zi_iconst (pc' := 1055) rfl rfl ?_
      exact Jq2 0 (by decide) (fun _ => rfl) (fun h => absurd c h)
    · refine zi_iconst (pc' := 1051) rfl rfl ?_
      refine zi_goto (x := 1055) rfl ?_
      exact Jq2 1 (by decide) (fun h => absurd h c) (fun _ => rfl)
  refine zi_if_eq (x := 1026) (pc' := 1022) rfl rfl (zw_r _ _) (fun c => ?_) (fun c => ?_)
  · refine zi_iconst (pc' := 1027) rfl rfl ?_
    exact Jq1 0 (by decide) (fun _ => rfl) (fun h => absurd c h)
  · refine zi_iconst (pc' := 1023) rfl rfl ?_
    refine zi_goto (x := 1027) rfl ?_
    exact Jq1 1 (by decide) (fun h => absurd h c) (fun _ => rfl)
