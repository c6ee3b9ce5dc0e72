-- by program (wip/gen/mklaw.py)
theorem zpf_M_ends {a : Nat} {i : Int} (hc : zPc a i) : ¬ fr_M_ends a i := fun w => by
  have ha := zPc_le hc
  unfold fr_M_ends at w
  clear hc
  omega
theorem zbg_M_endsFt {a : Nat} {i : Int} (h : zFt a i) : ¬ fr_M_ends a i := fun w => by
  unfold fr_M_ends at w
  unfold zFt at h
  omega
theorem zbg_M_endsFc {a : Nat} {i : Int} (h : zFc a i) : ¬ fr_M_ends a i := fun w => by
  unfold fr_M_ends at w
  unfold zFc at h
  omega
theorem zbg_M_endsFlw {a : Nat} {i : Int} (h : zFlw a i) : ¬ fr_M_ends a i := fun w => by
  unfold fr_M_ends at w
  unfold zFlw at h
  omega
theorem zbg_M_endsFlk {a : Nat} {i : Int} (h : zFlk a i) : ¬ fr_M_ends a i := fun w => by
  unfold fr_M_ends at w
  unfold zFlk at h
  omega
theorem zbg_M_endsFe {a : Nat} {i : Int} (h : zFe a i) : ¬ fr_M_ends a i := fun w => by
  unfold fr_M_ends at w
  unfold zFe at h
  omega
set_option maxRecDepth 100000 in
set_option maxHeartbeats 4000000 in
theorem zw_c17 {E : sx_E} {i : Int} {g : zi_M} (hL : sx_Ln E ≤ 3072) (h0 : 0 ≤ i) (h6 : i + 6 ≤ ((sx_Ln E : Nat) : Int)) (R : zw_R g) (k : ∀ g' : zi_M, zw_R g' → zi_W E 420 326 1356 [some (.ref 1000000000), some (.ref 0), some (.ref 214), some (zi_i i)] [] g' zw_Q) : zi_W E 420 326 751 [some (.ref 1000000000), some (.ref 0), some (.ref 214), some (zi_i i)] [] g zw_Q := by
  obtain ⟨I, R0, R1, R2, R3, R4, R5, R6, R7, R8, R9, R10, R11, R12, R13, R14, R15, R16, R17, R18, R19, R20, R21⟩ := R
  refine zi_aload_n (pc' := 752) rfl rfl rfl ?_
  refine zi_aload_n (pc' := 753) rfl rfl rfl ?_
  refine zi_iload_n (pc' := 754) rfl rfl rfl ?_
  refine zi_iconst (pc' := 755) rfl rfl ?_
  refine zi_iadd (pc' := 756) rfl rfl ?_
  refine zi_xald (pc' := 757) rfl rfl hL ⟨by omega, by omega⟩ ?_
  refine zi_aload_n (pc' := 758) rfl rfl rfl ?_
  refine zi_iload_n (pc' := 759) rfl rfl rfl ?_
  refine zi_iconst (pc' := 760) rfl rfl ?_
  refine zi_iadd (pc' := 761) rfl rfl ?_
  refine zi_xald (pc' := 762) rfl rfl hL ⟨by omega, by omega⟩ ?_
  refine zi_callV (d' := 5) (as := [_, _]) (pc' := 765) rfl rfl rfl rfl (by decide) (s_S_ends (Q := fun v g' => g' = g) (Nat.le_refl _) (k_S_ends I (zw_r _ _) (zw_r _ _) (by intros; rfl))) (zi_ki (fun v1 g1 h1 => ?_))
  have E1 : g1 = g := h1
  rw [E1]
  refine zi_pop (pc' := 766) rfl rfl rfl ?_
  refine zi_aload_n (pc' := 767) rfl rfl rfl ?_
  refine zi_aload_n (pc' := 768) rfl rfl rfl ?_
  refine zi_iload_n (pc' := 769) rfl rfl rfl ?_
  refine zi_iconst (pc' := 770) rfl rfl ?_
  refine zi_iadd (pc' := 771) rfl rfl ?_
  refine zi_xald (pc' := 772) rfl rfl hL ⟨by omega, by omega⟩ ?_
  refine zi_aload_n (pc' := 773) rfl rfl rfl ?_
  refine zi_iload_n (pc' := 774) rfl rfl rfl ?_
  refine zi_iconst (pc' := 775) rfl rfl ?_
  refine zi_iadd (pc' := 776) rfl rfl ?_
  refine zi_xald (pc' := 777) rfl rfl hL ⟨by omega, by omega⟩ ?_
  refine zi_callV (d' := 3) (as := [_, _]) (pc' := 780) rfl rfl rfl rfl (by decide) (s_M_ends (Q := fun v g' => zk_I g' ∧ zk_fr fr_M_ends g g') (Nat.le_refl _) (k_M_ends I (zw_r _ _) (zw_r _ _) (fun v g' I' F' h0 h1 h2 => ⟨I', F'⟩))) (zi_ki (fun v2 g2 h2 => ?_))
  obtain ⟨I2, F2⟩ := h2
  have c2_0_2 : g2 0 2 = g 0 2 := F2 0 2 (by first | (simp [fr_M_ends]; done) | (unfold fr_M_ends; omega))
  have c2_0_8 : g2 0 8 = g 0 8 := F2 0 8 (by first | (simp [fr_M_ends]; done) | (unfold fr_M_ends; omega))
  have c2_2_8 : g2 2 8 = g 2 8 := F2 2 8 (by first | (simp [fr_M_ends]; done) | (unfold fr_M_ends; omega))
  have c2_2_11 : g2 2 11 = g 2 11 := F2 2 11 (by first | (simp [fr_M_ends]; done) | (unfold fr_M_ends; omega))
  have c2_47_8 : g2 47 8 = g 47 8 := F2 47 8 (by first | (simp [fr_M_ends]; done) | (unfold fr_M_ends; omega))
  have c2_47_11 : g2 47 11 = g 47 11 := F2 47 11 (by first | (simp [fr_M_ends]; done) | (unfold fr_M_ends; omega))
  have c2_214_6 : g2 214 6 = g 214 6 := F2 214 6 (by first | (simp [fr_M_ends]; done) | (unfold fr_M_ends; omega))
  have c2_214_7 : g2 214 7 = g 214 7 := F2 214 7 (by first | (simp [fr_M_ends]; done) | (unfold fr_M_ends; omega))
  have c2_214_13 : g2 214 13 = g 214 13 := F2 214 13 (by first | (simp [fr_M_ends]; done) | (unfold fr_M_ends; omega))
  have c2_214_62 : g2 214 62 = g 214 62 := F2 214 62 (by first | (simp [fr_M_ends]; done) | (unfold fr_M_ends; omega))
  have c2_250_264 : g2 250 264 = g 250 264 := F2 250 264 (by first | (simp [fr_M_ends]; done) | (unfold fr_M_ends; omega))
  have c2_250_265 : g2 250 265 = g 250 265 := F2 250 265 (by first | (simp [fr_M_ends]; done) | (unfold fr_M_ends; omega))
  have Z2 : zP g2 := zP_eq (fun a i hc => F2 a i (zpf_M_ends hc)) R21
  refine zi_pop (pc' := 781) rfl rfl rfl ?_
  refine zi_goto (x := 1356) rfl ?_
  exact k _ ⟨I2, (by rw [c2_0_2, c2_214_62]; exact R0), (by rw [c2_0_8, c2_214_13]; exact R1), (funext fun k => by rw [F2 190 k (by first | (simp [fr_M_ends]; done) | (unfold fr_M_ends; omega)), F2 222 k (by first | (simp [fr_M_ends]; done) | (unfold fr_M_ends; omega))]; exact congrFun R2 k), (by rw [c2_2_8, c2_214_6]; exact R3), (fun q => by rw [c2_47_8, c2_250_264]; exact R4 (by rw [c2_0_2] at q; exact q)), (by rw [c2_2_11, c2_214_7]; exact R5), (fun q => by rw [c2_47_11, c2_250_265]; exact R6 (by rw [c2_0_2] at q; exact q)), (zXw_n R7 (by rw [F2 19 5 (by first | (simp [fr_M_ends]; done) | (unfold fr_M_ends; omega))]) (by rw [F2 214 37 (by first | (simp [fr_M_ends]; done) | (unfold fr_M_ends; omega))]) (fun k => by rw [F2 30 k (by first | (simp [fr_M_ends]; done) | (unfold fr_M_ends; omega))]) (fun k => by rw [F2 31 k (by first | (simp [fr_M_ends]; done) | (unfold fr_M_ends; omega))]) (fun k _ => by rw [F2 233 k (by first | (simp [fr_M_ends]; done) | (unfold fr_M_ends; omega))]) (show 0 ≤ g 19 5 ∧ g 19 5 ≤ 16 from I.1 19 5).2), (fun q => zXwk_n (R8 (by omega)) (by rw [F2 64 5 (by first | (simp [fr_M_ends]; done) | (unfold fr_M_ends; omega))]) (fun k => by rw [F2 75 k (by first | (simp [fr_M_ends]; done) | (unfold fr_M_ends; omega))]) (fun k => by rw [F2 76 k (by first | (simp [fr_M_ends]; done) | (unfold fr_M_ends; omega))]) (fun k => by rw [F2 250 k (by first | (simp [fr_M_ends]; done) | (unfold fr_M_ends; omega))])), (zXg_n R9 (by rw [F2 19 2 (by first | (simp [fr_M_ends]; done) | (unfold fr_M_ends; omega))]) (by rw [F2 214 35 (by first | (simp [fr_M_ends]; done) | (unfold fr_M_ends; omega))]) (fun k => by rw [F2 29 k (by first | (simp [fr_M_ends]; done) | (unfold fr_M_ends; omega))]) (fun k _ => by rw [F2 232 k (by first | (simp [fr_M_ends]; done) | (unfold fr_M_ends; omega))])), (fun q => zXgk_n (R10 (by omega)) (by rw [F2 64 2 (by first | (simp [fr_M_ends]; done) | (unfold fr_M_ends; omega))]) (fun k => by rw [F2 74 k (by first | (simp [fr_M_ends]; done) | (unfold fr_M_ends; omega))]) (fun k => by rw [F2 250 k (by first | (simp [fr_M_ends]; done) | (unfold fr_M_ends; omega))])), (zBD_n R11 (fun a i h => (F2 a i (zbg_M_endsFt h))) (fun a i h => (F2 a i (zbg_M_endsFc h)))), (zRw_n (fun k => by rw [F2 5 k (by first | (simp [fr_M_ends]; done) | (unfold fr_M_ends; omega))]) (fun k => by rw [F2 220 k (by first | (simp [fr_M_ends]; done) | (unfold fr_M_ends; omega))]) R12), (fun q => zRw_nk (fun k => by rw [F2 50 k (by first | (simp [fr_M_ends]; done) | (unfold fr_M_ends; omega))]) (fun k => by rw [F2 250 k (by first | (simp [fr_M_ends]; done) | (unfold fr_M_ends; omega))]) (R13 (by omega))), (zRw_n (fun k => by rw [F2 3 k (by first | (simp [fr_M_ends]; done) | (unfold fr_M_ends; omega))]) (fun k => by rw [F2 218 k (by first | (simp [fr_M_ends]; done) | (unfold fr_M_ends; omega))]) R14), (fun q => zRw_nk (fun k => by rw [F2 48 k (by first | (simp [fr_M_ends]; done) | (unfold fr_M_ends; omega))]) (fun k => by rw [F2 250 k (by first | (simp [fr_M_ends]; done) | (unfold fr_M_ends; omega))]) (R15 (by omega))), (zRw_n (fun k => by rw [F2 4 k (by first | (simp [fr_M_ends]; done) | (unfold fr_M_ends; omega))]) (fun k => by rw [F2 219 k (by first | (simp [fr_M_ends]; done) | (unfold fr_M_ends; omega))]) R16), (fun q => zRw_nk (fun k => by rw [F2 49 k (by first | (simp [fr_M_ends]; done) | (unfold fr_M_ends; omega))]) (fun k => by rw [F2 250 k (by first | (simp [fr_M_ends]; done) | (unfold fr_M_ends; omega))]) (R17 (by omega))), (zLW_n R18 (show 0 ≤ g 224 0 ∧ g 224 0 ≤ 16 from I.1 224 0).2 (fun a i h => (F2 a i (zbg_M_endsFlw h)))), (fun q => zLWk_n (R19 (by omega)) (fun a i h => (F2 a i (zbg_M_endsFlk h)))), (zFD_n R20 (fun a i h => (F2 a i (zbg_M_endsFe h)))), Z2⟩
theorem zpf_M_catches {a : Nat} {i : Int} (hc : zPc a i) : ¬ fr_M_catches a i := fun w => by
  have ha := zPc_le hc
  unfold fr_M_catches at w
  clear hc
  omega
theorem zbg_M_catchesFt {a : Nat} {i : Int} (h : zFt a i) : ¬ fr_M_catches a i := fun w => by
  unfold fr_M_catches at w
  unfold zFt at h
  omega
theorem zbg_M_catchesFc {a : Nat} {i : Int} (h : zFc a i) : ¬ fr_M_catches a i := fun w => by
  unfold fr_M_catches at w
  unfold zFc at h
  omega
theorem zbg_M_catchesFlw {a : Nat} {i : Int} (h : zFlw a i) : ¬ fr_M_catches a i := fun w => by
  unfold fr_M_catches at w
  unfold zFlw at h
  omega
theorem zbg_M_catchesFlk {a : Nat} {i : Int} (h : zFlk a i) : ¬ fr_M_catches a i := fun w => by
  unfold fr_M_catches at w
  unfold zFlk at h
  omega
theorem zbg_M_catchesFe {a : Nat} {i : Int} (h : zFe a i) : ¬ fr_M_catches a i := fun w => by
  unfold fr_M_catches at w
  unfold zFe at h
  omega
set_option maxRecDepth 100000 in
set_option maxHeartbeats 4000000 in
theorem zw_c18 {E : sx_E} {i : Int} {g : zi_M} (hL : sx_Ln E ≤ 3072) (h0 : 0 ≤ i) (h6 : i + 6 ≤ ((sx_Ln E : Nat) : Int)) (R : zw_R g) (k : ∀ g' : zi_M, zw_R g' → zi_W E 420 326 1356 [some (.ref 1000000000), some (.ref 0), some (.ref 214), some (zi_i i)] [] g' zw_Q) : zi_W E 420 326 784 [some (.ref 1000000000), some (.ref 0), some (.ref 214), some (zi_i i)] [] g zw_Q := by
  obtain ⟨I, R0, R1, R2, R3, R4, R5, R6, R7, R8, R9, R10, R11, R12, R13, R14, R15, R16, R17, R18, R19, R20, R21⟩ := R
  refine zi_aload_n (pc' := 785) rfl rfl rfl ?_
  refine zi_aload_n (pc' := 786) rfl rfl rfl ?_
  refine zi_iload_n (pc' := 787) rfl rfl rfl ?_
  refine zi_iconst (pc' := 788) rfl rfl ?_
  refine zi_iadd (pc' := 789) rfl rfl ?_
  refine zi_xald (pc' := 790) rfl rfl hL ⟨by omega, by omega⟩ ?_
  refine zi_callV (d' := 6) (as := [_]) (pc' := 793) rfl rfl rfl rfl (by decide) (s_S_catches (Q := fun v g' => g' = g) (Nat.le_refl _) (k_S_catches I (zw_r _ _) (by intros; rfl))) (zi_ki (fun v1 g1 h1 => ?_))
  have E1 : g1 = g := h1
  rw [E1]
  refine zi_pop (pc' := 794) rfl rfl rfl ?_
  refine zi_aload_n (pc' := 795) rfl rfl rfl ?_
  refine zi_aload_n (pc' := 796) rfl rfl rfl ?_
  refine zi_iload_n (pc' := 797) rfl rfl rfl ?_
  refine zi_iconst (pc' := 798) rfl rfl ?_
  refine zi_iadd (pc' := 799) rfl rfl ?_
  refine zi_xald (pc' := 800) rfl rfl hL ⟨by omega, by omega⟩ ?_
  refine zi_callV (d' := 4) (as := [_]) (pc' := 803) rfl rfl rfl rfl (by decide) (s_M_catches (Q := fun v g' => zk_I g' ∧ zk_fr fr_M_catches g g') (Nat.le_refl _) (k_M_catches I (zw_r _ _) (fun v g' I' F' h0 => ⟨I', F'⟩))) (zi_ki (fun v2 g2 h2 => ?_))
  obtain ⟨I2, F2⟩ := h2
  have c2_0_2 : g2 0 2 = g 0 2 := F2 0 2 (by first | (simp [fr_M_catches]; done) | (unfold fr_M_catches; omega))
  have c2_0_8 : g2 0 8 = g 0 8 := F2 0 8 (by first | (simp [fr_M_catches]; done) | (unfold fr_M_catches; omega))
  have c2_2_8 : g2 2 8 = g 2 8 := F2 2 8 (by first | (simp [fr_M_catches]; done) | (unfold fr_M_catches; omega))
  have c2_2_11 : g2 2 11 = g 2 11 := F2 2 11 (by first | (simp [fr_M_catches]; done) | (unfold fr_M_catches; omega))
  have c2_47_8 : g2 47 8 = g 47 8 := F2 47 8 (by first | (simp [fr_M_catches]; done) | (unfold fr_M_catches; omega))
  have c2_47_11 : g2 47 11 = g 47 11 := F2 47 11 (by first | (simp [fr_M_catches]; done) | (unfold fr_M_catches; omega))
  have c2_214_6 : g2 214 6 = g 214 6 := F2 214 6 (by first | (simp [fr_M_catches]; done) | (unfold fr_M_catches; omega))
  have c2_214_7 : g2 214 7 = g 214 7 := F2 214 7 (by first | (simp [fr_M_catches]; done) | (unfold fr_M_catches; omega))
  have c2_214_13 : g2 214 13 = g 214 13 := F2 214 13 (by first | (simp [fr_M_catches]; done) | (unfold fr_M_catches; omega))
  have c2_214_62 : g2 214 62 = g 214 62 := F2 214 62 (by first | (simp [fr_M_catches]; done) | (unfold fr_M_catches; omega))
  have c2_250_264 : g2 250 264 = g 250 264 := F2 250 264 (by first | (simp [fr_M_catches]; done) | (unfold fr_M_catches; omega))
  have c2_250_265 : g2 250 265 = g 250 265 := F2 250 265 (by first | (simp [fr_M_catches]; done) | (unfold fr_M_catches; omega))
  have Z2 : zP g2 := zP_eq (fun a i hc => F2 a i (zpf_M_catches hc)) R21
  refine zi_pop (pc' := 804) rfl rfl rfl ?_
  refine zi_goto (x := 1356) rfl ?_
  exact k _ ⟨I2, (by rw [c2_0_2, c2_214_62]; exact R0), (by rw [c2_0_8, c2_214_13]; exact R1), (funext fun k => by rw [F2 190 k (by first | (simp [fr_M_catches]; done) | (unfold fr_M_catches; omega)), F2 222 k (by first | (simp [fr_M_catches]; done) | (unfold fr_M_catches; omega))]; exact congrFun R2 k), (by rw [c2_2_8, c2_214_6]; exact R3), (fun q => by rw [c2_47_8, c2_250_264]; exact R4 (by rw [c2_0_2] at q; exact q)), (by rw [c2_2_11, c2_214_7]; exact R5), (fun q => by rw [c2_47_11, c2_250_265]; exact R6 (by rw [c2_0_2] at q; exact q)), (zXw_n R7 (by rw [F2 19 5 (by first | (simp [fr_M_catches]; done) | (unfold fr_M_catches; omega))]) (by rw [F2 214 37 (by first | (simp [fr_M_catches]; done) | (unfold fr_M_catches; omega))]) (fun k => by rw [F2 30 k (by first | (simp [fr_M_catches]; done) | (unfold fr_M_catches; omega))]) (fun k => by rw [F2 31 k (by first | (simp [fr_M_catches]; done) | (unfold fr_M_catches; omega))]) (fun k _ => by rw [F2 233 k (by first | (simp [fr_M_catches]; done) | (unfold fr_M_catches; omega))]) (show 0 ≤ g 19 5 ∧ g 19 5 ≤ 16 from I.1 19 5).2), (fun q => zXwk_n (R8 (by omega)) (by rw [F2 64 5 (by first | (simp [fr_M_catches]; done) | (unfold fr_M_catches; omega))]) (fun k => by rw [F2 75 k (by first | (simp [fr_M_catches]; done) | (unfold fr_M_catches; omega))]) (fun k => by rw [F2 76 k (by first | (simp [fr_M_catches]; done) | (unfold fr_M_catches; omega))]) (fun k => by rw [F2 250 k (by first | (simp [fr_M_catches]; done) | (unfold fr_M_catches; omega))])), (zXg_n R9 (by rw [F2 19 2 (by first | (simp [fr_M_catches]; done) | (unfold fr_M_catches; omega))]) (by rw [F2 214 35 (by first | (simp [fr_M_catches]; done) | (unfold fr_M_catches; omega))]) (fun k => by rw [F2 29 k (by first | (simp [fr_M_catches]; done) | (unfold fr_M_catches; omega))]) (fun k _ => by rw [F2 232 k (by first | (simp [fr_M_catches]; done) | (unfold fr_M_catches; omega))])), (fun q => zXgk_n (R10 (by omega)) (by rw [F2 64 2 (by first | (simp [fr_M_catches]; done) | (unfold fr_M_catches; omega))]) (fun k => by rw [F2 74 k (by first | (simp [fr_M_catches]; done) | (unfold fr_M_catches; omega))]) (fun k => by rw [F2 250 k (by first | (simp [fr_M_catches]; done) | (unfold fr_M_catches; omega))])), (zBD_n R11 (fun a i h => (F2 a i (zbg_M_catchesFt h))) (fun a i h => (F2 a i (zbg_M_catchesFc h)))), (zRw_n (fun k => by rw [F2 5 k (by first | (simp [fr_M_catches]; done) | (unfold fr_M_catches; omega))]) (fun k => by rw [F2 220 k (by first | (simp [fr_M_catches]; done) | (unfold fr_M_catches; omega))]) R12), (fun q => zRw_nk (fun k => by rw [F2 50 k (by first | (simp [fr_M_catches]; done) | (unfold fr_M_catches; omega))]) (fun k => by rw [F2 250 k (by first | (simp [fr_M_catches]; done) | (unfold fr_M_catches; omega))]) (R13 (by omega))), (zRw_n (fun k => by rw [F2 3 k (by first | (simp [fr_M_catches]; done) | (unfold fr_M_catches; omega))]) (fun k => by rw [F2 218 k (by first | (simp [fr_M_catches]; done) | (unfold fr_M_catches; omega))]) R14), (fun q => zRw_nk (fun k => by rw [F2 48 k (by first | (simp [fr_M_catches]; done) | (unfold fr_M_catches; omega))]) (fun k => by rw [F2 250 k (by first | (simp [fr_M_catches]; done) | (unfold fr_M_catches; omega))]) (R15 (by omega))), (zRw_n (fun k => by rw [F2 4 k (by first | (simp [fr_M_catches]; done) | (unfold fr_M_catches; omega))]) (fun k => by rw [F2 219 k (by first | (simp [fr_M_catches]; done) | (unfold fr_M_catches; omega))]) R16), (fun q => zRw_nk (fun k => by rw [F2 49 k (by first | (simp [fr_M_catches]; done) | (unfold fr_M_catches; omega))]) (fun k => by rw [F2 250 k (by first | (simp [fr_M_catches]; done) | (unfold fr_M_catches; omega))]) (R17 (by omega))), (zLW_n R18 (show 0 ≤ g 224 0 ∧ g 224 0 ≤ 16 from I.1 224 0).2 (fun a i h => (F2 a i (zbg_M_catchesFlw h)))), (fun q => zLWk_n (R19 (by omega)) (fun a i h => (F2 a i (zbg_M_catchesFlk h)))), (zFD_n R20 (fun a i h => (F2 a i (zbg_M_catchesFe h)))), Z2⟩
theorem zpf_S_seat {a : Nat} {i : Int} (hc : zPc a i) : ¬ fr_S_seat a i := fun w => by
  unfold fr_S_seat at w
  unfold zPc at hc
  omega
theorem zpf_M_seat {a : Nat} {i : Int} (hc : zPc a i) : ¬ fr_M_seat a i := fun w => by
  have ha := zPc_le hc
  unfold fr_M_seat at w
  clear hc
  omega
theorem zbg_M_seatFt {a : Nat} {i : Int} (h : zFt a i) : ¬ fr_M_seat a i := fun w => by
  unfold fr_M_seat at w
  unfold zFt at h
  omega
theorem zbg_S_seatFt {a : Nat} {i : Int} (h : zFt a i) : ¬ fr_S_seat a i := fun w => by
  unfold fr_S_seat at w
  unfold zFt at h
  omega
theorem zbg_M_seatFc {a : Nat} {i : Int} (h : zFc a i) : ¬ fr_M_seat a i := fun w => by
  unfold fr_M_seat at w
  unfold zFc at h
  omega
theorem zbg_S_seatFc {a : Nat} {i : Int} (h : zFc a i) : ¬ fr_S_seat a i := fun w => by
  unfold fr_S_seat at w
  unfold zFc at h
  omega
theorem zbg_M_seatFlw {a : Nat} {i : Int} (h : zFlw a i) : ¬ fr_M_seat a i := fun w => by
  unfold fr_M_seat at w
  unfold zFlw at h
  omega
theorem zbg_S_seatFlw {a : Nat} {i : Int} (h : zFlw a i) : ¬ fr_S_seat a i := fun w => by
  unfold fr_S_seat at w
  unfold zFlw at h
  omega
theorem zbg_M_seatFlk {a : Nat} {i : Int} (h : zFlk a i) : ¬ fr_M_seat a i := fun w => by
  unfold fr_M_seat at w
  unfold zFlk at h
  omega
theorem zbg_S_seatFlk {a : Nat} {i : Int} (h : zFlk a i) : ¬ fr_S_seat a i := fun w => by
  unfold fr_S_seat at w
  unfold zFlk at h
  omega
theorem zbg_M_seatFe {a : Nat} {i : Int} (h : zFe a i) : ¬ fr_M_seat a i := fun w => by
  unfold fr_M_seat at w
  unfold zFe at h
  omega
theorem zbg_S_seatFe {a : Nat} {i : Int} (h : zFe a i) : ¬ fr_S_seat a i := fun w => by
  unfold fr_S_seat at w
  unfold zFe at h
  omega
set_option maxRecDepth 100000 in
set_option maxHeartbeats 4000000 in
theorem zw_c19 {E : sx_E} {i : Int} {g : zi_M} (hL : sx_Ln E ≤ 3072) (h0 : 0 ≤ i) (h6 : i + 6 ≤ ((sx_Ln E : Nat) : Int)) (R : zw_R g) (k : ∀ g' : zi_M, zw_R g' → zi_W E 420 326 1356 [some (.ref 1000000000), some (.ref 0), some (.ref 214), some (zi_i i)] [] g' zw_Q) : zi_W E 420 326 807 [some (.ref 1000000000), some (.ref 0), some (.ref 214), some (zi_i i)] [] g zw_Q := by
  obtain ⟨I, R0, R1, R2, R3, R4, R5, R6, R7, R8, R9, R10, R11, R12, R13, R14, R15, R16, R17, R18, R19, R20, R21⟩ := R
  refine zi_aload_n (pc' := 808) rfl rfl rfl ?_
  refine zi_aload_n (pc' := 809) rfl rfl rfl ?_
  refine zi_iload_n (pc' := 810) rfl rfl rfl ?_
  refine zi_iconst (pc' := 811) rfl rfl ?_
  refine zi_iadd (pc' := 812) rfl rfl ?_
  refine zi_xald (pc' := 813) rfl rfl hL ⟨by omega, by omega⟩ ?_
  refine zi_aload_n (pc' := 814) rfl rfl rfl ?_
  refine zi_iload_n (pc' := 815) rfl rfl rfl ?_
  refine zi_iconst (pc' := 816) rfl rfl ?_
  refine zi_iadd (pc' := 817) rfl rfl ?_
  refine zi_xald (pc' := 818) rfl rfl hL ⟨by omega, by omega⟩ ?_
  refine zi_callV (d' := 2) (as := [_, _]) (pc' := 821) rfl rfl rfl rfl (by decide) (s_S_seat (Q := fun v g' => zk_I g' ∧ zk_fr fr_S_seat g g') (Nat.le_refl _) (k_S_seat I (zw_r _ _) (zw_r _ _) (fun v g' I' F' h0 h1 h2 h3 => ⟨I', F'⟩))) (zi_ki (fun v1 g1 h1 => ?_))
  obtain ⟨I1, F1⟩ := h1
  have c1_0_2 : g1 0 2 = g 0 2 := F1 0 2 (by first | (simp [fr_S_seat]; done) | (unfold fr_S_seat; omega))
  have c1_0_8 : g1 0 8 = g 0 8 := F1 0 8 (by first | (simp [fr_S_seat]; done) | (unfold fr_S_seat; omega))
  have c1_2_8 : g1 2 8 = g 2 8 := F1 2 8 (by first | (simp [fr_S_seat]; done) | (unfold fr_S_seat; omega))
  have c1_2_11 : g1 2 11 = g 2 11 := F1 2 11 (by first | (simp [fr_S_seat]; done) | (unfold fr_S_seat; omega))
  have c1_47_8 : g1 47 8 = g 47 8 := F1 47 8 (by first | (simp [fr_S_seat]; done) | (unfold fr_S_seat; omega))
  have c1_47_11 : g1 47 11 = g 47 11 := F1 47 11 (by first | (simp [fr_S_seat]; done) | (unfold fr_S_seat; omega))
  have c1_214_6 : g1 214 6 = g 214 6 := F1 214 6 (by first | (simp [fr_S_seat]; done) | (unfold fr_S_seat; omega))
  have c1_214_7 : g1 214 7 = g 214 7 := F1 214 7 (by first | (simp [fr_S_seat]; done) | (unfold fr_S_seat; omega))
  have c1_214_13 : g1 214 13 = g 214 13 := F1 214 13 (by first | (simp [fr_S_seat]; done) | (unfold fr_S_seat; omega))
  have c1_214_62 : g1 214 62 = g 214 62 := F1 214 62 (by first | (simp [fr_S_seat]; done) | (unfold fr_S_seat; omega))
  have c1_250_264 : g1 250 264 = g 250 264 := F1 250 264 (by first | (simp [fr_S_seat]; done) | (unfold fr_S_seat; omega))
  have c1_250_265 : g1 250 265 = g 250 265 := F1 250 265 (by first | (simp [fr_S_seat]; done) | (unfold fr_S_seat; omega))
  have Z1 : zP g1 := zP_eq (fun a i hc => F1 a i (zpf_S_seat hc)) R21
  refine zi_pop (pc' := 822) rfl rfl rfl ?_
  refine zi_aload_n (pc' := 823) rfl rfl rfl ?_
  refine zi_aload_n (pc' := 824) rfl rfl rfl ?_
  refine zi_iload_n (pc' := 825) rfl rfl rfl ?_
  refine zi_iconst (pc' := 826) rfl rfl ?_
  refine zi_iadd (pc' := 827) rfl rfl ?_
  refine zi_xald (pc' := 828) rfl rfl hL ⟨by omega, by omega⟩ ?_
  refine zi_aload_n (pc' := 829) rfl rfl rfl ?_
  refine zi_iload_n (pc' := 830) rfl rfl rfl ?_
  refine zi_iconst (pc' := 831) rfl rfl ?_
  refine zi_iadd (pc' := 832) rfl rfl ?_
  refine zi_xald (pc' := 833) rfl rfl hL ⟨by omega, by omega⟩ ?_
  refine zi_callV (d' := 2) (as := [_, _]) (pc' := 836) rfl rfl rfl rfl (by decide) (s_M_seat (Q := fun v g' => zk_I g' ∧ zk_fr fr_M_seat g1 g') (Nat.le_refl _) (k_M_seat I1 (zw_r _ _) (zw_r _ _) (fun v g' I' F' h0 h1 h2 h3 => ⟨I', F'⟩))) (zi_ki (fun v2 g2 h2 => ?_))
  obtain ⟨I2, F2⟩ := h2
  have c2_0_2 : g2 0 2 = g1 0 2 := F2 0 2 (by first | (simp [fr_M_seat]; done) | (unfold fr_M_seat; omega))
  have c2_0_8 : g2 0 8 = g1 0 8 := F2 0 8 (by first | (simp [fr_M_seat]; done) | (unfold fr_M_seat; omega))
  have c2_2_8 : g2 2 8 = g1 2 8 := F2 2 8 (by first | (simp [fr_M_seat]; done) | (unfold fr_M_seat; omega))
  have c2_2_11 : g2 2 11 = g1 2 11 := F2 2 11 (by first | (simp [fr_M_seat]; done) | (unfold fr_M_seat; omega))
  have c2_47_8 : g2 47 8 = g1 47 8 := F2 47 8 (by first | (simp [fr_M_seat]; done) | (unfold fr_M_seat; omega))
  have c2_47_11 : g2 47 11 = g1 47 11 := F2 47 11 (by first | (simp [fr_M_seat]; done) | (unfold fr_M_seat; omega))
  have c2_214_6 : g2 214 6 = g1 214 6 := F2 214 6 (by first | (simp [fr_M_seat]; done) | (unfold fr_M_seat; omega))
  have c2_214_7 : g2 214 7 = g1 214 7 := F2 214 7 (by first | (simp [fr_M_seat]; done) | (unfold fr_M_seat; omega))
  have c2_214_13 : g2 214 13 = g1 214 13 := F2 214 13 (by first | (simp [fr_M_seat]; done) | (unfold fr_M_seat; omega))
  have c2_214_62 : g2 214 62 = g1 214 62 := F2 214 62 (by first | (simp [fr_M_seat]; done) | (unfold fr_M_seat; omega))
  have c2_250_264 : g2 250 264 = g1 250 264 := F2 250 264 (by first | (simp [fr_M_seat]; done) | (unfold fr_M_seat; omega))
  have c2_250_265 : g2 250 265 = g1 250 265 := F2 250 265 (by first | (simp [fr_M_seat]; done) | (unfold fr_M_seat; omega))
  have Z2 : zP g2 := zP_eq (fun a i hc => F2 a i (zpf_M_seat hc)) Z1
  refine zi_pop (pc' := 837) rfl rfl rfl ?_
  refine zi_goto (x := 1356) rfl ?_
  exact k _ ⟨I2, (by rw [c2_0_2, c1_0_2, c2_214_62, c1_214_62]; exact R0), (by rw [c2_0_8, c1_0_8, c2_214_13, c1_214_13]; exact R1), (funext fun k => by rw [F2 190 k (by first | (simp [fr_M_seat]; done) | (unfold fr_M_seat; omega)), F1 190 k (by first | (simp [fr_S_seat]; done) | (unfold fr_S_seat; omega)), F2 222 k (by first | (simp [fr_M_seat]; done) | (unfold fr_M_seat; omega)), F1 222 k (by first | (simp [fr_S_seat]; done) | (unfold fr_S_seat; omega))]; exact congrFun R2 k), (by rw [c2_2_8, c1_2_8, c2_214_6, c1_214_6]; exact R3), (fun q => by rw [c2_47_8, c1_47_8, c2_250_264, c1_250_264]; exact R4 (by rw [c2_0_2, c1_0_2] at q; exact q)), (by rw [c2_2_11, c1_2_11, c2_214_7, c1_214_7]; exact R5), (fun q => by rw [c2_47_11, c1_47_11, c2_250_265, c1_250_265]; exact R6 (by rw [c2_0_2, c1_0_2] at q; exact q)), (zXw_n R7 (by rw [F2 19 5 (by first | (simp [fr_M_seat]; done) | (unfold fr_M_seat; omega)), F1 19 5 (by first | (simp [fr_S_seat]; done) | (unfold fr_S_seat; omega))]) (by rw [F2 214 37 (by first | (simp [fr_M_seat]; done) | (unfold fr_M_seat; omega)), F1 214 37 (by first | (simp [fr_S_seat]; done) | (unfold fr_S_seat; omega))]) (fun k => by rw [F2 30 k (by first | (simp [fr_M_seat]; done) | (unfold fr_M_seat; omega)), F1 30 k (by first | (simp [fr_S_seat]; done) | (unfold fr_S_seat; omega))]) (fun k => by rw [F2 31 k (by first | (simp [fr_M_seat]; done) | (unfold fr_M_seat; omega)), F1 31 k (by first | (simp [fr_S_seat]; done) | (unfold fr_S_seat; omega))]) (fun k _ => by rw [F2 233 k (by first | (simp [fr_M_seat]; done) | (unfold fr_M_seat; omega)), F1 233 k (by first | (simp [fr_S_seat]; done) | (unfold fr_S_seat; omega))]) (show 0 ≤ g 19 5 ∧ g 19 5 ≤ 16 from I.1 19 5).2), (fun q => zXwk_n (R8 (by omega)) (by rw [F2 64 5 (by first | (simp [fr_M_seat]; done) | (unfold fr_M_seat; omega)), F1 64 5 (by first | (simp [fr_S_seat]; done) | (unfold fr_S_seat; omega))]) (fun k => by rw [F2 75 k (by first | (simp [fr_M_seat]; done) | (unfold fr_M_seat; omega)), F1 75 k (by first | (simp [fr_S_seat]; done) | (unfold fr_S_seat; omega))]) (fun k => by rw [F2 76 k (by first | (simp [fr_M_seat]; done) | (unfold fr_M_seat; omega)), F1 76 k (by first | (simp [fr_S_seat]; done) | (unfold fr_S_seat; omega))]) (fun k => by rw [F2 250 k (by first | (simp [fr_M_seat]; done) | (unfold fr_M_seat; omega)), F1 250 k (by first | (simp [fr_S_seat]; done) | (unfold fr_S_seat; omega))])), (zXg_n R9 (by rw [F2 19 2 (by first | (simp [fr_M_seat]; done) | (unfold fr_M_seat; omega)), F1 19 2 (by first | (simp [fr_S_seat]; done) | (unfold fr_S_seat; omega))]) (by rw [F2 214 35 (by first | (simp [fr_M_seat]; done) | (unfold fr_M_seat; omega)), F1 214 35 (by first | (simp [fr_S_seat]; done) | (unfold fr_S_seat; omega))]) (fun k => by rw [F2 29 k (by first | (simp [fr_M_seat]; done) | (unfold fr_M_seat; omega)), F1 29 k (by first | (simp [fr_S_seat]; done) | (unfold fr_S_seat; omega))]) (fun k _ => by rw [F2 232 k (by first | (simp [fr_M_seat]; done) | (unfold fr_M_seat; omega)), F1 232 k (by first | (simp [fr_S_seat]; done) | (unfold fr_S_seat; omega))])), (fun q => zXgk_n (R10 (by omega)) (by rw [F2 64 2 (by first | (simp [fr_M_seat]; done) | (unfold fr_M_seat; omega)), F1 64 2 (by first | (simp [fr_S_seat]; done) | (unfold fr_S_seat; omega))]) (fun k => by rw [F2 74 k (by first | (simp [fr_M_seat]; done) | (unfold fr_M_seat; omega)), F1 74 k (by first | (simp [fr_S_seat]; done) | (unfold fr_S_seat; omega))]) (fun k => by rw [F2 250 k (by first | (simp [fr_M_seat]; done) | (unfold fr_M_seat; omega)), F1 250 k (by first | (simp [fr_S_seat]; done) | (unfold fr_S_seat; omega))])), (zBD_n R11 (fun a i h => (F2 a i (zbg_M_seatFt h)).trans (F1 a i (zbg_S_seatFt h))) (fun a i h => (F2 a i (zbg_M_seatFc h)).trans (F1 a i (zbg_S_seatFc h)))), (zRw_n (fun k => by rw [F2 5 k (by first | (simp [fr_M_seat]; done) | (unfold fr_M_seat; omega)), F1 5 k (by first | (simp [fr_S_seat]; done) | (unfold fr_S_seat; omega))]) (fun k => by rw [F2 220 k (by first | (simp [fr_M_seat]; done) | (unfold fr_M_seat; omega)), F1 220 k (by first | (simp [fr_S_seat]; done) | (unfold fr_S_seat; omega))]) R12), (fun q => zRw_nk (fun k => by rw [F2 50 k (by first | (simp [fr_M_seat]; done) | (unfold fr_M_seat; omega)), F1 50 k (by first | (simp [fr_S_seat]; done) | (unfold fr_S_seat; omega))]) (fun k => by rw [F2 250 k (by first | (simp [fr_M_seat]; done) | (unfold fr_M_seat; omega)), F1 250 k (by first | (simp [fr_S_seat]; done) | (unfold fr_S_seat; omega))]) (R13 (by omega))), (zRw_n (fun k => by rw [F2 3 k (by first | (simp [fr_M_seat]; done) | (unfold fr_M_seat; omega)), F1 3 k (by first | (simp [fr_S_seat]; done) | (unfold fr_S_seat; omega))]) (fun k => by rw [F2 218 k (by first | (simp [fr_M_seat]; done) | (unfold fr_M_seat; omega)), F1 218 k (by first | (simp [fr_S_seat]; done) | (unfold fr_S_seat; omega))]) R14), (fun q => zRw_nk (fun k => by rw [F2 48 k (by first | (simp [fr_M_seat]; done) | (unfold fr_M_seat; omega)), F1 48 k (by first | (simp [fr_S_seat]; done) | (unfold fr_S_seat; omega))]) (fun k => by rw [F2 250 k (by first | (simp [fr_M_seat]; done) | (unfold fr_M_seat; omega)), F1 250 k (by first | (simp [fr_S_seat]; done) | (unfold fr_S_seat; omega))]) (R15 (by omega))), (zRw_n (fun k => by rw [F2 4 k (by first | (simp [fr_M_seat]; done) | (unfold fr_M_seat; omega)), F1 4 k (by first | (simp [fr_S_seat]; done) | (unfold fr_S_seat; omega))]) (fun k => by rw [F2 219 k (by first | (simp [fr_M_seat]; done) | (unfold fr_M_seat; omega)), F1 219 k (by first | (simp [fr_S_seat]; done) | (unfold fr_S_seat; omega))]) R16), (fun q => zRw_nk (fun k => by rw [F2 49 k (by first | (simp [fr_M_seat]; done) | (unfold fr_M_seat; omega)), F1 49 k (by first | (simp [fr_S_seat]; done) | (unfold fr_S_seat; omega))]) (fun k => by rw [F2 250 k (by first | (simp [fr_M_seat]; done) | (unfold fr_M_seat; omega)), F1 250 k (by first | (simp [fr_S_seat]; done) | (unfold fr_S_seat; omega))]) (R17 (by omega))), (zLW_n R18 (show 0 ≤ g 224 0 ∧ g 224 0 ≤ 16 from I.1 224 0).2 (fun a i h => (F2 a i (zbg_M_seatFlw h)).trans (F1 a i (zbg_S_seatFlw h)))), (fun q => zLWk_n (R19 (by omega)) (fun a i h => (F2 a i (zbg_M_seatFlk h)).trans (F1 a i (zbg_S_seatFlk h)))), (zFD_n R20 (fun a i h => (F2 a i (zbg_M_seatFe h)).trans (F1 a i (zbg_S_seatFe h)))), Z2⟩
