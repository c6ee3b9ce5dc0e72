-- by program (wip/gen/mklaw.py)
theorem zpf_M_book {a : Nat} {i : Int} (hc : zPc a i) : ¬ fr_M_book a i := fun w => by
  have ha := zPc_le hc
  unfold fr_M_book at w
  clear hc
  omega
theorem zbg_M_bookFt {a : Nat} {i : Int} (h : zFt a i) : ¬ fr_M_book a i := fun w => by
  unfold fr_M_book at w
  unfold zFt at h
  omega
theorem zbg_M_bookFc {a : Nat} {i : Int} (h : zFc a i) : ¬ fr_M_book a i := fun w => by
  unfold fr_M_book at w
  unfold zFc at h
  omega
theorem zbg_M_bookFlw {a : Nat} {i : Int} (h : zFlw a i) : ¬ fr_M_book a i := fun w => by
  unfold fr_M_book at w
  unfold zFlw at h
  omega
theorem zbg_M_bookFlk {a : Nat} {i : Int} (h : zFlk a i) : ¬ fr_M_book a i := fun w => by
  unfold fr_M_book at w
  unfold zFlk at h
  omega
theorem zbg_M_bookFe {a : Nat} {i : Int} (h : zFe a i) : ¬ fr_M_book a i := fun w => by
  unfold fr_M_book at w
  unfold zFe at h
  omega
set_option maxRecDepth 100000 in
set_option maxHeartbeats 4000000 in
theorem zw_c14 {E : sx_E} {i : Int} {g : zi_M} (hL : sx_Ln E ≤ 3072) (h0 : 0 ≤ i) (h6 : i + 6 ≤ ((sx_Ln E : Nat) : Int)) (R : zw_R g) (k : ∀ g' : zi_M, zw_R g' → zi_W E 420 326 1356 [some (.ref 1000000000), some (.ref 0), some (.ref 214), some (zi_i i)] [] g' zw_Q) : zi_W E 420 326 652 [some (.ref 1000000000), some (.ref 0), some (.ref 214), some (zi_i i)] [] g zw_Q := by
  obtain ⟨I, R0, R1, R2, R3, R4, R5, R6, R7, R8, R9, R10, R11, R12, R13, R14, R15, R16, R17, R18, R19, R20, R21⟩ := R
  refine zi_aload_n (pc' := 653) rfl rfl rfl ?_
  refine zi_aload_n (pc' := 654) rfl rfl rfl ?_
  refine zi_iload_n (pc' := 655) rfl rfl rfl ?_
  refine zi_iconst (pc' := 656) rfl rfl ?_
  refine zi_iadd (pc' := 657) rfl rfl ?_
  refine zi_xald (pc' := 658) rfl rfl hL ⟨by omega, by omega⟩ ?_
  refine zi_aload_n (pc' := 659) rfl rfl rfl ?_
  refine zi_iload_n (pc' := 660) rfl rfl rfl ?_
  refine zi_iconst (pc' := 661) rfl rfl ?_
  refine zi_iadd (pc' := 662) rfl rfl ?_
  refine zi_xald (pc' := 663) rfl rfl hL ⟨by omega, by omega⟩ ?_
  refine zi_callV (d' := 1) (as := [_, _]) (pc' := 666) rfl rfl rfl rfl (by decide) (s_S_book (Q := fun v g' => g' = g) (Nat.le_refl _) (k_S_book I (zw_r _ _) (zw_r _ _) (by intros; rfl))) (zi_ki (fun v1 g1 h1 => ?_))
  have E1 : g1 = g := h1
  rw [E1]
  refine zi_pop (pc' := 667) rfl rfl rfl ?_
  refine zi_aload_n (pc' := 668) rfl rfl rfl ?_
  refine zi_aload_n (pc' := 669) rfl rfl rfl ?_
  refine zi_iload_n (pc' := 670) rfl rfl rfl ?_
  refine zi_iconst (pc' := 671) rfl rfl ?_
  refine zi_iadd (pc' := 672) rfl rfl ?_
  refine zi_xald (pc' := 673) rfl rfl hL ⟨by omega, by omega⟩ ?_
  refine zi_aload_n (pc' := 674) rfl rfl rfl ?_
  refine zi_iload_n (pc' := 675) rfl rfl rfl ?_
  refine zi_iconst (pc' := 676) rfl rfl ?_
  refine zi_iadd (pc' := 677) rfl rfl ?_
  refine zi_xald (pc' := 678) rfl rfl hL ⟨by omega, by omega⟩ ?_
  refine zi_callV (d' := 2) (as := [_, _]) (pc' := 681) rfl rfl rfl rfl (by decide) (s_M_book (Q := fun v g' => zk_I g' ∧ zk_fr fr_M_book g g') (Nat.le_refl _) (k_M_book I (zw_r _ _) (zw_r _ _) (fun v g' I' F' h0 h1 => ⟨I', F'⟩))) (zi_ki (fun v2 g2 h2 => ?_))
  obtain ⟨I2, F2⟩ := h2
  have c2_0_2 : g2 0 2 = g 0 2 := F2 0 2 (by first | (simp [fr_M_book]; done) | (unfold fr_M_book; omega))
  have c2_0_8 : g2 0 8 = g 0 8 := F2 0 8 (by first | (simp [fr_M_book]; done) | (unfold fr_M_book; omega))
  have c2_2_8 : g2 2 8 = g 2 8 := F2 2 8 (by first | (simp [fr_M_book]; done) | (unfold fr_M_book; omega))
  have c2_2_11 : g2 2 11 = g 2 11 := F2 2 11 (by first | (simp [fr_M_book]; done) | (unfold fr_M_book; omega))
  have c2_47_8 : g2 47 8 = g 47 8 := F2 47 8 (by first | (simp [fr_M_book]; done) | (unfold fr_M_book; omega))
  have c2_47_11 : g2 47 11 = g 47 11 := F2 47 11 (by first | (simp [fr_M_book]; done) | (unfold fr_M_book; omega))
  have c2_214_6 : g2 214 6 = g 214 6 := F2 214 6 (by first | (simp [fr_M_book]; done) | (unfold fr_M_book; omega))
  have c2_214_7 : g2 214 7 = g 214 7 := F2 214 7 (by first | (simp [fr_M_book]; done) | (unfold fr_M_book; omega))
  have c2_214_13 : g2 214 13 = g 214 13 := F2 214 13 (by first | (simp [fr_M_book]; done) | (unfold fr_M_book; omega))
  have c2_214_62 : g2 214 62 = g 214 62 := F2 214 62 (by first | (simp [fr_M_book]; done) | (unfold fr_M_book; omega))
  have c2_250_264 : g2 250 264 = g 250 264 := F2 250 264 (by first | (simp [fr_M_book]; done) | (unfold fr_M_book; omega))
  have c2_250_265 : g2 250 265 = g 250 265 := F2 250 265 (by first | (simp [fr_M_book]; done) | (unfold fr_M_book; omega))
  have Z2 : zP g2 := zP_eq (fun a i hc => F2 a i (zpf_M_book hc)) R21
  refine zi_pop (pc' := 682) rfl rfl rfl ?_
  refine zi_goto (x := 1356) rfl ?_
  exact k _ ⟨I2, (by rw [c2_0_2, c2_214_62]; exact R0), (by rw [c2_0_8, c2_214_13]; exact R1), (funext fun k => by rw [F2 190 k (by first | (simp [fr_M_book]; done) | (unfold fr_M_book; omega)), F2 222 k (by first | (simp [fr_M_book]; done) | (unfold fr_M_book; omega))]; exact congrFun R2 k), (by rw [c2_2_8, c2_214_6]; exact R3), (fun q => by rw [c2_47_8, c2_250_264]; exact R4 (by rw [c2_0_2] at q; exact q)), (by rw [c2_2_11, c2_214_7]; exact R5), (fun q => by rw [c2_47_11, c2_250_265]; exact R6 (by rw [c2_0_2] at q; exact q)), (zXw_n R7 (by rw [F2 19 5 (by first | (simp [fr_M_book]; done) | (unfold fr_M_book; omega))]) (by rw [F2 214 37 (by first | (simp [fr_M_book]; done) | (unfold fr_M_book; omega))]) (fun k => by rw [F2 30 k (by first | (simp [fr_M_book]; done) | (unfold fr_M_book; omega))]) (fun k => by rw [F2 31 k (by first | (simp [fr_M_book]; done) | (unfold fr_M_book; omega))]) (fun k _ => by rw [F2 233 k (by first | (simp [fr_M_book]; done) | (unfold fr_M_book; omega))]) (show 0 ≤ g 19 5 ∧ g 19 5 ≤ 16 from I.1 19 5).2), (fun q => zXwk_n (R8 (by omega)) (by rw [F2 64 5 (by first | (simp [fr_M_book]; done) | (unfold fr_M_book; omega))]) (fun k => by rw [F2 75 k (by first | (simp [fr_M_book]; done) | (unfold fr_M_book; omega))]) (fun k => by rw [F2 76 k (by first | (simp [fr_M_book]; done) | (unfold fr_M_book; omega))]) (fun k => by rw [F2 250 k (by first | (simp [fr_M_book]; done) | (unfold fr_M_book; omega))])), (zXg_n R9 (by rw [F2 19 2 (by first | (simp [fr_M_book]; done) | (unfold fr_M_book; omega))]) (by rw [F2 214 35 (by first | (simp [fr_M_book]; done) | (unfold fr_M_book; omega))]) (fun k => by rw [F2 29 k (by first | (simp [fr_M_book]; done) | (unfold fr_M_book; omega))]) (fun k _ => by rw [F2 232 k (by first | (simp [fr_M_book]; done) | (unfold fr_M_book; omega))])), (fun q => zXgk_n (R10 (by omega)) (by rw [F2 64 2 (by first | (simp [fr_M_book]; done) | (unfold fr_M_book; omega))]) (fun k => by rw [F2 74 k (by first | (simp [fr_M_book]; done) | (unfold fr_M_book; omega))]) (fun k => by rw [F2 250 k (by first | (simp [fr_M_book]; done) | (unfold fr_M_book; omega))])), (zBD_n R11 (fun a i h => (F2 a i (zbg_M_bookFt h))) (fun a i h => (F2 a i (zbg_M_bookFc h)))), (zRw_n (fun k => by rw [F2 5 k (by first | (simp [fr_M_book]; done) | (unfold fr_M_book; omega))]) (fun k => by rw [F2 220 k (by first | (simp [fr_M_book]; done) | (unfold fr_M_book; omega))]) R12), (fun q => zRw_nk (fun k => by rw [F2 50 k (by first | (simp [fr_M_book]; done) | (unfold fr_M_book; omega))]) (fun k => by rw [F2 250 k (by first | (simp [fr_M_book]; done) | (unfold fr_M_book; omega))]) (R13 (by omega))), (zRw_n (fun k => by rw [F2 3 k (by first | (simp [fr_M_book]; done) | (unfold fr_M_book; omega))]) (fun k => by rw [F2 218 k (by first | (simp [fr_M_book]; done) | (unfold fr_M_book; omega))]) R14), (fun q => zRw_nk (fun k => by rw [F2 48 k (by first | (simp [fr_M_book]; done) | (unfold fr_M_book; omega))]) (fun k => by rw [F2 250 k (by first | (simp [fr_M_book]; done) | (unfold fr_M_book; omega))]) (R15 (by omega))), (zRw_n (fun k => by rw [F2 4 k (by first | (simp [fr_M_book]; done) | (unfold fr_M_book; omega))]) (fun k => by rw [F2 219 k (by first | (simp [fr_M_book]; done) | (unfold fr_M_book; omega))]) R16), (fun q => zRw_nk (fun k => by rw [F2 49 k (by first | (simp [fr_M_book]; done) | (unfold fr_M_book; omega))]) (fun k => by rw [F2 250 k (by first | (simp [fr_M_book]; done) | (unfold fr_M_book; omega))]) (R17 (by omega))), (zLW_n R18 (show 0 ≤ g 224 0 ∧ g 224 0 ≤ 16 from I.1 224 0).2 (fun a i h => (F2 a i (zbg_M_bookFlw h)))), (fun q => zLWk_n (R19 (by omega)) (fun a i h => (F2 a i (zbg_M_bookFlk h)))), (zFD_n R20 (fun a i h => (F2 a i (zbg_M_bookFe h)))), Z2⟩
theorem zpf_S_goes {a : Nat} {i : Int} (hc : zPc a i) : ¬ fr_S_goes a i := fun w => by
  unfold fr_S_goes at w
  unfold zPc at hc
  omega
theorem zpf_M_goes {a : Nat} {i : Int} (hc : zPc a i) : ¬ fr_M_goes a i := fun w => by
  have ha := zPc_le hc
  unfold fr_M_goes at w
  clear hc
  omega
theorem zbg_M_goesFt {a : Nat} {i : Int} (h : zFt a i) : ¬ fr_M_goes a i := fun w => by
  unfold fr_M_goes at w
  unfold zFt at h
  omega
theorem zbg_S_goesFt {a : Nat} {i : Int} (h : zFt a i) : ¬ fr_S_goes a i := fun w => by
  unfold fr_S_goes at w
  unfold zFt at h
  omega
theorem zbg_S_goesFc {a : Nat} {i : Int} (h : zFc a i) : ¬ fr_S_goes a i := fun w => by
  unfold fr_S_goes at w
  unfold zFc at h
  omega
theorem zbg_M_goesFlw {a : Nat} {i : Int} (h : zFlw a i) : ¬ fr_M_goes a i := fun w => by
  unfold fr_M_goes at w
  unfold zFlw at h
  omega
theorem zbg_S_goesFlw {a : Nat} {i : Int} (h : zFlw a i) : ¬ fr_S_goes a i := fun w => by
  unfold fr_S_goes at w
  unfold zFlw at h
  omega
theorem zbg_M_goesFlk {a : Nat} {i : Int} (h : zFlk a i) : ¬ fr_M_goes a i := fun w => by
  unfold fr_M_goes at w
  unfold zFlk at h
  omega
theorem zbg_S_goesFlk {a : Nat} {i : Int} (h : zFlk a i) : ¬ fr_S_goes a i := fun w => by
  unfold fr_S_goes at w
  unfold zFlk at h
  omega
set_option maxRecDepth 100000 in
set_option maxHeartbeats 4000000 in
theorem zw_c15 {E : sx_E} {i : Int} {g : zi_M} (hL : sx_Ln E ≤ 3072) (h0 : 0 ≤ i) (h6 : i + 6 ≤ ((sx_Ln E : Nat) : Int)) (R : zw_R g) (k : ∀ g' : zi_M, zw_R g' → zi_W E 420 326 1356 [some (.ref 1000000000), some (.ref 0), some (.ref 214), some (zi_i i)] [] g' zw_Q) : zi_W E 420 326 685 [some (.ref 1000000000), some (.ref 0), some (.ref 214), some (zi_i i)] [] g zw_Q := by
  obtain ⟨I, R0, R1, R2, R3, R4, R5, R6, R7, R8, R9, R10, R11, R12, R13, R14, R15, R16, R17, R18, R19, R20, R21⟩ := R
  refine zi_aload_n (pc' := 686) rfl rfl rfl ?_
  refine zi_aload_n (pc' := 687) rfl rfl rfl ?_
  refine zi_iload_n (pc' := 688) rfl rfl rfl ?_
  refine zi_iconst (pc' := 689) rfl rfl ?_
  refine zi_iadd (pc' := 690) rfl rfl ?_
  refine zi_xald (pc' := 691) rfl rfl hL ⟨by omega, by omega⟩ ?_
  refine zi_aload_n (pc' := 692) rfl rfl rfl ?_
  refine zi_iload_n (pc' := 693) rfl rfl rfl ?_
  refine zi_iconst (pc' := 694) rfl rfl ?_
  refine zi_iadd (pc' := 695) rfl rfl ?_
  refine zi_xald (pc' := 696) rfl rfl hL ⟨by omega, by omega⟩ ?_
  refine zi_callV (d' := 8) (as := [_, _]) (pc' := 699) rfl rfl rfl rfl (by decide) (s_S_goes (Q := fun v g' => zk_I g' ∧ zk_fr fr_S_goes g g' ∧ ((1 ≤ (zw_s E (i + 1)) ∧ (zw_s E (i + 1)) ≤ 60 ∧ ((0 ≤ (zw_s E (i + 2)) ∧ (zw_s E (i + 2)) ≤ 2) ∨ (10 ≤ (zw_s E (i + 2)) ∧ (zw_s E (i + 2)) ≤ 15))) → zGc (zw_s E (i + 1)) g g') ∧ (¬ (1 ≤ (zw_s E (i + 1)) ∧ (zw_s E (i + 1)) ≤ 60 ∧ ((0 ≤ (zw_s E (i + 2)) ∧ (zw_s E (i + 2)) ≤ 2) ∨ (10 ≤ (zw_s E (i + 2)) ∧ (zw_s E (i + 2)) ≤ 15))) → v = -1 ∧ g' = g) ∧ ((1 ≤ (zw_s E (i + 1)) ∧ (zw_s E (i + 1)) ≤ 60 ∧ ((0 ≤ (zw_s E (i + 2)) ∧ (zw_s E (i + 2)) ≤ 2) ∨ (10 ≤ (zw_s E (i + 2)) ∧ (zw_s E (i + 2)) ≤ 15))) → zGa (zw_s E (i + 2)) v g')) (Nat.le_refl _) (k_S_goes I (zw_r _ _) (zw_r _ _) (fun v g' I' F' h0 h1 h2 => ⟨I', F', h0, h1, h2⟩))) (zi_ki (fun v1 g1 h1 => ?_))
  obtain ⟨I1, F1, p1_0, p1_1, p1_2⟩ := h1
  have c1_0_2 : g1 0 2 = g 0 2 := F1 0 2 (by first | (simp [fr_S_goes]; done) | (unfold fr_S_goes; omega))
  have c1_0_8 : g1 0 8 = g 0 8 := F1 0 8 (by first | (simp [fr_S_goes]; done) | (unfold fr_S_goes; omega))
  have c1_2_8 : g1 2 8 = g 2 8 := F1 2 8 (by first | (simp [fr_S_goes]; done) | (unfold fr_S_goes; omega))
  have c1_2_11 : g1 2 11 = g 2 11 := F1 2 11 (by first | (simp [fr_S_goes]; done) | (unfold fr_S_goes; omega))
  have c1_47_8 : g1 47 8 = g 47 8 := F1 47 8 (by first | (simp [fr_S_goes]; done) | (unfold fr_S_goes; omega))
  have c1_47_11 : g1 47 11 = g 47 11 := F1 47 11 (by first | (simp [fr_S_goes]; done) | (unfold fr_S_goes; omega))
  have c1_214_6 : g1 214 6 = g 214 6 := F1 214 6 (by first | (simp [fr_S_goes]; done) | (unfold fr_S_goes; omega))
  have c1_214_7 : g1 214 7 = g 214 7 := F1 214 7 (by first | (simp [fr_S_goes]; done) | (unfold fr_S_goes; omega))
  have c1_214_13 : g1 214 13 = g 214 13 := F1 214 13 (by first | (simp [fr_S_goes]; done) | (unfold fr_S_goes; omega))
  have c1_214_62 : g1 214 62 = g 214 62 := F1 214 62 (by first | (simp [fr_S_goes]; done) | (unfold fr_S_goes; omega))
  have c1_250_264 : g1 250 264 = g 250 264 := F1 250 264 (by first | (simp [fr_S_goes]; done) | (unfold fr_S_goes; omega))
  have c1_250_265 : g1 250 265 = g 250 265 := F1 250 265 (by first | (simp [fr_S_goes]; done) | (unfold fr_S_goes; omega))
  have Z1 : zP g1 := zP_eq (fun a i hc => F1 a i (zpf_S_goes hc)) R21
  refine zi_pop (pc' := 700) rfl rfl rfl ?_
  refine zi_aload_n (pc' := 701) rfl rfl rfl ?_
  refine zi_aload_n (pc' := 702) rfl rfl rfl ?_
  refine zi_iload_n (pc' := 703) rfl rfl rfl ?_
  refine zi_iconst (pc' := 704) rfl rfl ?_
  refine zi_iadd (pc' := 705) rfl rfl ?_
  refine zi_xald (pc' := 706) rfl rfl hL ⟨by omega, by omega⟩ ?_
  refine zi_aload_n (pc' := 707) rfl rfl rfl ?_
  refine zi_iload_n (pc' := 708) rfl rfl rfl ?_
  refine zi_iconst (pc' := 709) rfl rfl ?_
  refine zi_iadd (pc' := 710) rfl rfl ?_
  refine zi_xald (pc' := 711) rfl rfl hL ⟨by omega, by omega⟩ ?_
  refine zi_callV (d' := 10) (as := [_, _]) (pc' := 714) rfl rfl rfl rfl (by decide) (s_M_goes (Q := fun v g' => zk_I g' ∧ zk_fr fr_M_goes g1 g' ∧ (∀ k : Int, 0 ≤ k → k < 264 → g' 215 k = g1 215 k) ∧ ((1 ≤ (zw_s E (i + 1)) ∧ (zw_s E (i + 1)) ≤ 60 ∧ ((0 ≤ (zw_s E (i + 2)) ∧ (zw_s E (i + 2)) ≤ 2) ∨ (10 ≤ (zw_s E (i + 2)) ∧ (zw_s E (i + 2)) ≤ 15))) → zGM (zw_s E (i + 1)) (zw_s E (i + 2)) v g1 g') ∧ (¬ (1 ≤ (zw_s E (i + 1)) ∧ (zw_s E (i + 1)) ≤ 60 ∧ ((0 ≤ (zw_s E (i + 2)) ∧ (zw_s E (i + 2)) ≤ 2) ∨ (10 ≤ (zw_s E (i + 2)) ∧ (zw_s E (i + 2)) ≤ 15))) → v = -1 ∧ ∃ x : Int, g' = zi_u g1 214 0 x) ∧ (g1 214 5 = 0 → g' 214 5 = 0)) (Nat.le_refl _) (k_M_goes I1 (zw_r _ _) (zw_r _ _) (fun v g' I' F' h0 h1 h2 h3 => ⟨I', F', h0, h1, h2, h3⟩))) (zi_ki (fun v2 g2 h2 => ?_))
  obtain ⟨I2, F2, p2_0, p2_1, p2_2, p2_3⟩ := h2
  have c2_0_2 : g2 0 2 = g1 0 2 := F2 0 2 (by first | (simp [fr_M_goes]; done) | (unfold fr_M_goes; omega))
  have c2_0_8 : g2 0 8 = g1 0 8 := F2 0 8 (by first | (simp [fr_M_goes]; done) | (unfold fr_M_goes; omega))
  have c2_2_8 : g2 2 8 = g1 2 8 := F2 2 8 (by first | (simp [fr_M_goes]; done) | (unfold fr_M_goes; omega))
  have c2_2_11 : g2 2 11 = g1 2 11 := F2 2 11 (by first | (simp [fr_M_goes]; done) | (unfold fr_M_goes; omega))
  have c2_47_8 : g2 47 8 = g1 47 8 := F2 47 8 (by first | (simp [fr_M_goes]; done) | (unfold fr_M_goes; omega))
  have c2_47_11 : g2 47 11 = g1 47 11 := F2 47 11 (by first | (simp [fr_M_goes]; done) | (unfold fr_M_goes; omega))
  have c2_214_6 : g2 214 6 = g1 214 6 := F2 214 6 (by first | (simp [fr_M_goes]; done) | (unfold fr_M_goes; omega))
  have c2_214_7 : g2 214 7 = g1 214 7 := F2 214 7 (by first | (simp [fr_M_goes]; done) | (unfold fr_M_goes; omega))
  have c2_214_13 : g2 214 13 = g1 214 13 := F2 214 13 (by first | (simp [fr_M_goes]; done) | (unfold fr_M_goes; omega))
  have c2_214_62 : g2 214 62 = g1 214 62 := F2 214 62 (by first | (simp [fr_M_goes]; done) | (unfold fr_M_goes; omega))
  have c2_250_264 : g2 250 264 = g1 250 264 := F2 250 264 (by first | (simp [fr_M_goes]; done) | (unfold fr_M_goes; omega))
  have c2_250_265 : g2 250 265 = g1 250 265 := F2 250 265 (by first | (simp [fr_M_goes]; done) | (unfold fr_M_goes; omega))
  have zb_ : zBD g2 := zBD_n R11 (fun a i h => (F2 a i (zbg_M_goesFt h)).trans (F1 a i (zbg_S_goesFt h))) (fun a i h => by
    by_cases q : a = 215
    · subst q; exact (p2_0 i (by unfold zFc at h; omega) (by unfold zFc at h; omega)).trans (F1 215 i (zbg_S_goesFc h))
    · exact (F2 a i (fun w => by unfold fr_M_goes at w; unfold zFc at h; omega)).trans (F1 a i (zbg_S_goesFc h)))
  have zf2_ : zFD g2 := zFD_goes I I1 R20 R11 R7 R5 (zCTM I R20.2.2.1 R11.2.2.1 R7 R9 R18 R14 R16 R12 R3 R5) p1_0 p1_1 p2_1 p2_2 p2_0 p2_3 (fun a i h => F1 a i (fun w => by unfold fr_S_goes at w; omega)) (fun a i h => F2 a i (fun w => by unfold fr_M_goes at w; omega)) (fun a i h => by unfold zFg at h; (exact (F2 a i (fun w => by unfold fr_M_goes at w; omega)).trans (F1 a i (fun w => by unfold fr_S_goes at w; omega))))
  have Z2 : zP g2 := zP_eq (fun a i hc => F2 a i (zpf_M_goes hc)) Z1
  refine zi_pop (pc' := 715) rfl rfl rfl ?_
  refine zi_goto (x := 1356) rfl ?_
  exact k _ ⟨I2, (by rw [c2_0_2, c1_0_2, c2_214_62, c1_214_62]; exact R0), (by rw [c2_0_8, c1_0_8, c2_214_13, c1_214_13]; exact R1), (funext fun k => by rw [F2 190 k (by first | (simp [fr_M_goes]; done) | (unfold fr_M_goes; omega)), F1 190 k (by first | (simp [fr_S_goes]; done) | (unfold fr_S_goes; omega)), F2 222 k (by first | (simp [fr_M_goes]; done) | (unfold fr_M_goes; omega)), F1 222 k (by first | (simp [fr_S_goes]; done) | (unfold fr_S_goes; omega))]; exact congrFun R2 k), (by rw [c2_2_8, c1_2_8, c2_214_6, c1_214_6]; exact R3), (fun q => by rw [c2_47_8, c1_47_8, c2_250_264, c1_250_264]; exact R4 (by rw [c2_0_2, c1_0_2] at q; exact q)), (by rw [c2_2_11, c1_2_11, c2_214_7, c1_214_7]; exact R5), (fun q => by rw [c2_47_11, c1_47_11, c2_250_265, c1_250_265]; exact R6 (by rw [c2_0_2, c1_0_2] at q; exact q)), (zXw_n R7 (by rw [F2 19 5 (by first | (simp [fr_M_goes]; done) | (unfold fr_M_goes; omega)), F1 19 5 (by first | (simp [fr_S_goes]; done) | (unfold fr_S_goes; omega))]) (by rw [F2 214 37 (by first | (simp [fr_M_goes]; done) | (unfold fr_M_goes; omega)), F1 214 37 (by first | (simp [fr_S_goes]; done) | (unfold fr_S_goes; omega))]) (fun k => by rw [F2 30 k (by first | (simp [fr_M_goes]; done) | (unfold fr_M_goes; omega)), F1 30 k (by first | (simp [fr_S_goes]; done) | (unfold fr_S_goes; omega))]) (fun k => by rw [F2 31 k (by first | (simp [fr_M_goes]; done) | (unfold fr_M_goes; omega)), F1 31 k (by first | (simp [fr_S_goes]; done) | (unfold fr_S_goes; omega))]) (fun k _ => by rw [F2 233 k (by first | (simp [fr_M_goes]; done) | (unfold fr_M_goes; omega)), F1 233 k (by first | (simp [fr_S_goes]; done) | (unfold fr_S_goes; omega))]) (show 0 ≤ g 19 5 ∧ g 19 5 ≤ 16 from I.1 19 5).2), (fun q => zXwk_n (R8 (by omega)) (by rw [F2 64 5 (by first | (simp [fr_M_goes]; done) | (unfold fr_M_goes; omega)), F1 64 5 (by first | (simp [fr_S_goes]; done) | (unfold fr_S_goes; omega))]) (fun k => by rw [F2 75 k (by first | (simp [fr_M_goes]; done) | (unfold fr_M_goes; omega)), F1 75 k (by first | (simp [fr_S_goes]; done) | (unfold fr_S_goes; omega))]) (fun k => by rw [F2 76 k (by first | (simp [fr_M_goes]; done) | (unfold fr_M_goes; omega)), F1 76 k (by first | (simp [fr_S_goes]; done) | (unfold fr_S_goes; omega))]) (fun k => by rw [F2 250 k (by first | (simp [fr_M_goes]; done) | (unfold fr_M_goes; omega)), F1 250 k (by first | (simp [fr_S_goes]; done) | (unfold fr_S_goes; omega))])), (zXg_n R9 (by rw [F2 19 2 (by first | (simp [fr_M_goes]; done) | (unfold fr_M_goes; omega)), F1 19 2 (by first | (simp [fr_S_goes]; done) | (unfold fr_S_goes; omega))]) (by rw [F2 214 35 (by first | (simp [fr_M_goes]; done) | (unfold fr_M_goes; omega)), F1 214 35 (by first | (simp [fr_S_goes]; done) | (unfold fr_S_goes; omega))]) (fun k => by rw [F2 29 k (by first | (simp [fr_M_goes]; done) | (unfold fr_M_goes; omega)), F1 29 k (by first | (simp [fr_S_goes]; done) | (unfold fr_S_goes; omega))]) (fun k _ => by rw [F2 232 k (by first | (simp [fr_M_goes]; done) | (unfold fr_M_goes; omega)), F1 232 k (by first | (simp [fr_S_goes]; done) | (unfold fr_S_goes; omega))])), (fun q => zXgk_n (R10 (by omega)) (by rw [F2 64 2 (by first | (simp [fr_M_goes]; done) | (unfold fr_M_goes; omega)), F1 64 2 (by first | (simp [fr_S_goes]; done) | (unfold fr_S_goes; omega))]) (fun k => by rw [F2 74 k (by first | (simp [fr_M_goes]; done) | (unfold fr_M_goes; omega)), F1 74 k (by first | (simp [fr_S_goes]; done) | (unfold fr_S_goes; omega))]) (fun k => by rw [F2 250 k (by first | (simp [fr_M_goes]; done) | (unfold fr_M_goes; omega)), F1 250 k (by first | (simp [fr_S_goes]; done) | (unfold fr_S_goes; omega))])), zb_, (zRw_n (fun k => by rw [F2 5 k (by first | (simp [fr_M_goes]; done) | (unfold fr_M_goes; omega)), F1 5 k (by first | (simp [fr_S_goes]; done) | (unfold fr_S_goes; omega))]) (fun k => by rw [F2 220 k (by first | (simp [fr_M_goes]; done) | (unfold fr_M_goes; omega)), F1 220 k (by first | (simp [fr_S_goes]; done) | (unfold fr_S_goes; omega))]) R12), (fun q => zRw_nk (fun k => by rw [F2 50 k (by first | (simp [fr_M_goes]; done) | (unfold fr_M_goes; omega)), F1 50 k (by first | (simp [fr_S_goes]; done) | (unfold fr_S_goes; omega))]) (fun k => by rw [F2 250 k (by first | (simp [fr_M_goes]; done) | (unfold fr_M_goes; omega)), F1 250 k (by first | (simp [fr_S_goes]; done) | (unfold fr_S_goes; omega))]) (R13 (by omega))), (zRw_n (fun k => by rw [F2 3 k (by first | (simp [fr_M_goes]; done) | (unfold fr_M_goes; omega)), F1 3 k (by first | (simp [fr_S_goes]; done) | (unfold fr_S_goes; omega))]) (fun k => by rw [F2 218 k (by first | (simp [fr_M_goes]; done) | (unfold fr_M_goes; omega)), F1 218 k (by first | (simp [fr_S_goes]; done) | (unfold fr_S_goes; omega))]) R14), (fun q => zRw_nk (fun k => by rw [F2 48 k (by first | (simp [fr_M_goes]; done) | (unfold fr_M_goes; omega)), F1 48 k (by first | (simp [fr_S_goes]; done) | (unfold fr_S_goes; omega))]) (fun k => by rw [F2 250 k (by first | (simp [fr_M_goes]; done) | (unfold fr_M_goes; omega)), F1 250 k (by first | (simp [fr_S_goes]; done) | (unfold fr_S_goes; omega))]) (R15 (by omega))), (zRw_n (fun k => by rw [F2 4 k (by first | (simp [fr_M_goes]; done) | (unfold fr_M_goes; omega)), F1 4 k (by first | (simp [fr_S_goes]; done) | (unfold fr_S_goes; omega))]) (fun k => by rw [F2 219 k (by first | (simp [fr_M_goes]; done) | (unfold fr_M_goes; omega)), F1 219 k (by first | (simp [fr_S_goes]; done) | (unfold fr_S_goes; omega))]) R16), (fun q => zRw_nk (fun k => by rw [F2 49 k (by first | (simp [fr_M_goes]; done) | (unfold fr_M_goes; omega)), F1 49 k (by first | (simp [fr_S_goes]; done) | (unfold fr_S_goes; omega))]) (fun k => by rw [F2 250 k (by first | (simp [fr_M_goes]; done) | (unfold fr_M_goes; omega)), F1 250 k (by first | (simp [fr_S_goes]; done) | (unfold fr_S_goes; omega))]) (R17 (by omega))), (zLW_n R18 (show 0 ≤ g 224 0 ∧ g 224 0 ≤ 16 from I.1 224 0).2 (fun a i h => (F2 a i (zbg_M_goesFlw h)).trans (F1 a i (zbg_S_goesFlw h)))), (fun q => zLWk_n (R19 (by omega)) (fun a i h => (F2 a i (zbg_M_goesFlk h)).trans (F1 a i (zbg_S_goesFlk h)))), zf2_, Z2⟩
theorem zpf_M_told {a : Nat} {i : Int} (hc : zPc a i) : ¬ fr_M_told a i := fun w => by
  have ha := zPc_le hc
  unfold fr_M_told at w
  clear hc
  omega
theorem zbg_M_toldFt {a : Nat} {i : Int} (h : zFt a i) : ¬ fr_M_told a i := fun w => by
  unfold fr_M_told at w
  unfold zFt at h
  omega
theorem zbg_M_toldFc {a : Nat} {i : Int} (h : zFc a i) : ¬ fr_M_told a i := fun w => by
  unfold fr_M_told at w
  unfold zFc at h
  omega
theorem zbg_M_toldFlw {a : Nat} {i : Int} (h : zFlw a i) : ¬ fr_M_told a i := fun w => by
  unfold fr_M_told at w
  unfold zFlw at h
  omega
theorem zbg_M_toldFlk {a : Nat} {i : Int} (h : zFlk a i) : ¬ fr_M_told a i := fun w => by
  unfold fr_M_told at w
  unfold zFlk at h
  omega
theorem zbg_M_toldFe {a : Nat} {i : Int} (h : zFe a i) : ¬ fr_M_told a i := fun w => by
  unfold fr_M_told at w
  unfold zFe at h
  omega
set_option maxRecDepth 100000 in
set_option maxHeartbeats 4000000 in
theorem zw_c16 {E : sx_E} {i : Int} {g : zi_M} (hL : sx_Ln E ≤ 3072) (h0 : 0 ≤ i) (h6 : i + 6 ≤ ((sx_Ln E : Nat) : Int)) (R : zw_R g) (k : ∀ g' : zi_M, zw_R g' → zi_W E 420 326 1356 [some (.ref 1000000000), some (.ref 0), some (.ref 214), some (zi_i i)] [] g' zw_Q) : zi_W E 420 326 718 [some (.ref 1000000000), some (.ref 0), some (.ref 214), some (zi_i i)] [] g zw_Q := by
  obtain ⟨I, R0, R1, R2, R3, R4, R5, R6, R7, R8, R9, R10, R11, R12, R13, R14, R15, R16, R17, R18, R19, R20, R21⟩ := R
  refine zi_aload_n (pc' := 719) rfl rfl rfl ?_
  refine zi_aload_n (pc' := 720) rfl rfl rfl ?_
  refine zi_iload_n (pc' := 721) rfl rfl rfl ?_
  refine zi_iconst (pc' := 722) rfl rfl ?_
  refine zi_iadd (pc' := 723) rfl rfl ?_
  refine zi_xald (pc' := 724) rfl rfl hL ⟨by omega, by omega⟩ ?_
  refine zi_aload_n (pc' := 725) rfl rfl rfl ?_
  refine zi_iload_n (pc' := 726) rfl rfl rfl ?_
  refine zi_iconst (pc' := 727) rfl rfl ?_
  refine zi_iadd (pc' := 728) rfl rfl ?_
  refine zi_xald (pc' := 729) rfl rfl hL ⟨by omega, by omega⟩ ?_
  refine zi_callV (d' := 4) (as := [_, _]) (pc' := 732) rfl rfl rfl rfl (by decide) (s_S_told (Q := fun v g' => g' = g) (Nat.le_refl _) (k_S_told I (zw_r _ _) (zw_r _ _) (by intros; rfl))) (zi_ki (fun v1 g1 h1 => ?_))
  have E1 : g1 = g := h1
  rw [E1]
  refine zi_pop (pc' := 733) rfl rfl rfl ?_
  refine zi_aload_n (pc' := 734) rfl rfl rfl ?_
  refine zi_aload_n (pc' := 735) rfl rfl rfl ?_
  refine zi_iload_n (pc' := 736) rfl rfl rfl ?_
  refine zi_iconst (pc' := 737) rfl rfl ?_
  refine zi_iadd (pc' := 738) rfl rfl ?_
  refine zi_xald (pc' := 739) rfl rfl hL ⟨by omega, by omega⟩ ?_
  refine zi_aload_n (pc' := 740) rfl rfl rfl ?_
  refine zi_iload_n (pc' := 741) rfl rfl rfl ?_
  refine zi_iconst (pc' := 742) rfl rfl ?_
  refine zi_iadd (pc' := 743) rfl rfl ?_
  refine zi_xald (pc' := 744) rfl rfl hL ⟨by omega, by omega⟩ ?_
  refine zi_callV (d' := 3) (as := [_, _]) (pc' := 747) rfl rfl rfl rfl (by decide) (s_M_told (Q := fun v g' => zk_I g' ∧ zk_fr fr_M_told g g') (Nat.le_refl _) (k_M_told I (zw_r _ _) (zw_r _ _) (fun v g' I' F' h0 h1 h2 => ⟨I', F'⟩))) (zi_ki (fun v2 g2 h2 => ?_))
  obtain ⟨I2, F2⟩ := h2
  have c2_0_2 : g2 0 2 = g 0 2 := F2 0 2 (by first | (simp [fr_M_told]; done) | (unfold fr_M_told; omega))
  have c2_0_8 : g2 0 8 = g 0 8 := F2 0 8 (by first | (simp [fr_M_told]; done) | (unfold fr_M_told; omega))
  have c2_2_8 : g2 2 8 = g 2 8 := F2 2 8 (by first | (simp [fr_M_told]; done) | (unfold fr_M_told; omega))
  have c2_2_11 : g2 2 11 = g 2 11 := F2 2 11 (by first | (simp [fr_M_told]; done) | (unfold fr_M_told; omega))
  have c2_47_8 : g2 47 8 = g 47 8 := F2 47 8 (by first | (simp [fr_M_told]; done) | (unfold fr_M_told; omega))
  have c2_47_11 : g2 47 11 = g 47 11 := F2 47 11 (by first | (simp [fr_M_told]; done) | (unfold fr_M_told; omega))
  have c2_214_6 : g2 214 6 = g 214 6 := F2 214 6 (by first | (simp [fr_M_told]; done) | (unfold fr_M_told; omega))
  have c2_214_7 : g2 214 7 = g 214 7 := F2 214 7 (by first | (simp [fr_M_told]; done) | (unfold fr_M_told; omega))
  have c2_214_13 : g2 214 13 = g 214 13 := F2 214 13 (by first | (simp [fr_M_told]; done) | (unfold fr_M_told; omega))
  have c2_214_62 : g2 214 62 = g 214 62 := F2 214 62 (by first | (simp [fr_M_told]; done) | (unfold fr_M_told; omega))
  have c2_250_264 : g2 250 264 = g 250 264 := F2 250 264 (by first | (simp [fr_M_told]; done) | (unfold fr_M_told; omega))
  have c2_250_265 : g2 250 265 = g 250 265 := F2 250 265 (by first | (simp [fr_M_told]; done) | (unfold fr_M_told; omega))
  have Z2 : zP g2 := zP_eq (fun a i hc => F2 a i (zpf_M_told hc)) R21
  refine zi_pop (pc' := 748) rfl rfl rfl ?_
  refine zi_goto (x := 1356) rfl ?_
  exact k _ ⟨I2, (by rw [c2_0_2, c2_214_62]; exact R0), (by rw [c2_0_8, c2_214_13]; exact R1), (funext fun k => by rw [F2 190 k (by first | (simp [fr_M_told]; done) | (unfold fr_M_told; omega)), F2 222 k (by first | (simp [fr_M_told]; done) | (unfold fr_M_told; omega))]; exact congrFun R2 k), (by rw [c2_2_8, c2_214_6]; exact R3), (fun q => by rw [c2_47_8, c2_250_264]; exact R4 (by rw [c2_0_2] at q; exact q)), (by rw [c2_2_11, c2_214_7]; exact R5), (fun q => by rw [c2_47_11, c2_250_265]; exact R6 (by rw [c2_0_2] at q; exact q)), (zXw_n R7 (by rw [F2 19 5 (by first | (simp [fr_M_told]; done) | (unfold fr_M_told; omega))]) (by rw [F2 214 37 (by first | (simp [fr_M_told]; done) | (unfold fr_M_told; omega))]) (fun k => by rw [F2 30 k (by first | (simp [fr_M_told]; done) | (unfold fr_M_told; omega))]) (fun k => by rw [F2 31 k (by first | (simp [fr_M_told]; done) | (unfold fr_M_told; omega))]) (fun k _ => by rw [F2 233 k (by first | (simp [fr_M_told]; done) | (unfold fr_M_told; omega))]) (show 0 ≤ g 19 5 ∧ g 19 5 ≤ 16 from I.1 19 5).2), (fun q => zXwk_n (R8 (by omega)) (by rw [F2 64 5 (by first | (simp [fr_M_told]; done) | (unfold fr_M_told; omega))]) (fun k => by rw [F2 75 k (by first | (simp [fr_M_told]; done) | (unfold fr_M_told; omega))]) (fun k => by rw [F2 76 k (by first | (simp [fr_M_told]; done) | (unfold fr_M_told; omega))]) (fun k => by rw [F2 250 k (by first | (simp [fr_M_told]; done) | (unfold fr_M_told; omega))])), (zXg_n R9 (by rw [F2 19 2 (by first | (simp [fr_M_told]; done) | (unfold fr_M_told; omega))]) (by rw [F2 214 35 (by first | (simp [fr_M_told]; done) | (unfold fr_M_told; omega))]) (fun k => by rw [F2 29 k (by first | (simp [fr_M_told]; done) | (unfold fr_M_told; omega))]) (fun k _ => by rw [F2 232 k (by first | (simp [fr_M_told]; done) | (unfold fr_M_told; omega))])), (fun q => zXgk_n (R10 (by omega)) (by rw [F2 64 2 (by first | (simp [fr_M_told]; done) | (unfold fr_M_told; omega))]) (fun k => by rw [F2 74 k (by first | (simp [fr_M_told]; done) | (unfold fr_M_told; omega))]) (fun k => by rw [F2 250 k (by first | (simp [fr_M_told]; done) | (unfold fr_M_told; omega))])), (zBD_n R11 (fun a i h => (F2 a i (zbg_M_toldFt h))) (fun a i h => (F2 a i (zbg_M_toldFc h)))), (zRw_n (fun k => by rw [F2 5 k (by first | (simp [fr_M_told]; done) | (unfold fr_M_told; omega))]) (fun k => by rw [F2 220 k (by first | (simp [fr_M_told]; done) | (unfold fr_M_told; omega))]) R12), (fun q => zRw_nk (fun k => by rw [F2 50 k (by first | (simp [fr_M_told]; done) | (unfold fr_M_told; omega))]) (fun k => by rw [F2 250 k (by first | (simp [fr_M_told]; done) | (unfold fr_M_told; omega))]) (R13 (by omega))), (zRw_n (fun k => by rw [F2 3 k (by first | (simp [fr_M_told]; done) | (unfold fr_M_told; omega))]) (fun k => by rw [F2 218 k (by first | (simp [fr_M_told]; done) | (unfold fr_M_told; omega))]) R14), (fun q => zRw_nk (fun k => by rw [F2 48 k (by first | (simp [fr_M_told]; done) | (unfold fr_M_told; omega))]) (fun k => by rw [F2 250 k (by first | (simp [fr_M_told]; done) | (unfold fr_M_told; omega))]) (R15 (by omega))), (zRw_n (fun k => by rw [F2 4 k (by first | (simp [fr_M_told]; done) | (unfold fr_M_told; omega))]) (fun k => by rw [F2 219 k (by first | (simp [fr_M_told]; done) | (unfold fr_M_told; omega))]) R16), (fun q => zRw_nk (fun k => by rw [F2 49 k (by first | (simp [fr_M_told]; done) | (unfold fr_M_told; omega))]) (fun k => by rw [F2 250 k (by first | (simp [fr_M_told]; done) | (unfold fr_M_told; omega))]) (R17 (by omega))), (zLW_n R18 (show 0 ≤ g 224 0 ∧ g 224 0 ≤ 16 from I.1 224 0).2 (fun a i h => (F2 a i (zbg_M_toldFlw h)))), (fun q => zLWk_n (R19 (by omega)) (fun a i h => (F2 a i (zbg_M_toldFlk h)))), (zFD_n R20 (fun a i h => (F2 a i (zbg_M_toldFe h)))), Z2⟩
