-- by program (wip/gen/mklaw.py)
theorem zpf_M_text {a : Nat} {i : Int} (hc : zPc a i) : ¬ fr_M_text a i := fun w => by
  have ha := zPc_le hc
  unfold fr_M_text at w
  clear hc
  omega
theorem zbg_M_textFlk {a : Nat} {i : Int} (h : zFlk a i) : ¬ fr_M_text a i := fun w => by
  unfold fr_M_text at w
  unfold zFlk at h
  omega
theorem zbg_S_textFlk {a : Nat} {i : Int} (h : zFlk a i) : ¬ fr_S_text a i := fun w => by
  unfold fr_S_text at w
  unfold zFlk at h
  omega
set_option maxRecDepth 100000 in
set_option maxHeartbeats 4000000 in
theorem zw_c8 {E : sx_E} {i : Int} {g : zi_M} (hL : sx_Ln E ≤ 3072) (h0 : 0 ≤ i) (h6 : i + 6 ≤ ((sx_Ln E : Nat) : Int)) (R : zw_R g) (k : ∀ g' : zi_M, zw_R g' → zi_W E 420 326 1356 [some (.ref 1000000000), some (.ref 0), some (.ref 214), some (zi_i i)] [] g' zw_Q) : zi_W E 420 326 484 [some (.ref 1000000000), some (.ref 0), some (.ref 214), some (zi_i i)] [] g zw_Q := by
  obtain ⟨I, R0, R1, R2, R3, R4, R5, R6, R7, R8, R9, R10, R11, R12, R13, R14, R15, R16, R17, R18, R19, R20, R21⟩ := R
  refine zi_aload_n (pc' := 485) rfl rfl rfl ?_
  refine zi_aload_n (pc' := 486) rfl rfl rfl ?_
  refine zi_iload_n (pc' := 487) rfl rfl rfl ?_
  refine zi_iconst (pc' := 488) rfl rfl ?_
  refine zi_iadd (pc' := 489) rfl rfl ?_
  refine zi_xald (pc' := 490) rfl rfl hL ⟨by omega, by omega⟩ ?_
  refine zi_callV (d' := 12) (as := [_]) (pc' := 493) rfl rfl rfl rfl (by decide) (s_S_text (Q := fun v g' => zk_I g' ∧ zk_fr fr_S_text g g' ∧ ((-1) ≤ v ∧ v ≤ 17) ∧ (g' 0 8 = 0) ∧ (g' 91 1 = 0 ∨ g' 91 1 = g 91 1) ∧ (0 ≤ (zw_s E (i + 1)) → (zw_s E (i + 1)) ≤ 3 → zySs (1000000001 + (zw_s E (i + 1)).toNat) (g 190) (g 0 8) g') ∧ ((zw_s E (i + 1)) = 2 → zySw g g' v) ∧ (¬ (zw_s E (i + 1)) = 2 → zyUw g g') ∧ ((zw_s E (i + 1)) = 1 → zySg (g 2 8) g g' v) ∧ (¬ (zw_s E (i + 1)) = 1 → zyUg g g') ∧ ((zw_s E (i + 1)) = 3 → zySp (g 2 8) (g 2 11) g g' v) ∧ (¬ (zw_s E (i + 1)) = 3 → zyUp g g') ∧ ((zw_s E (i + 1)) < 0 ∨ 3 < (zw_s E (i + 1)) → v = -1 ∧ g' 191 5 = 0 ∧ g' 191 6 = -1) ∧ (¬ ((zw_s E (i + 1)) = 2 ∨ (zw_s E (i + 1)) = 3) → g' 91 1 = g 91 1) ∧ ((zw_s E (i + 1)) = 0 → zqVc v g') ∧ (zlcX (zw_s E (i + 1)) v g g')) (Nat.le_refl _) (k_S_text I (zw_r _ _) (fun v g' I' F' h0 h1 h2 h3 h4 h5 h6 h7 h8 h9 h10 h11 h12 h13 => ⟨I', F', h0, h1, h2, h3, h4, h5, h6, h7, h8, h9, h10, h11, h12, h13⟩))) (zi_ki (fun v1 g1 h1 => ?_))
  obtain ⟨I1, F1, p1_0, p1_1, p1_2, p1_3, p1_4, p1_5, p1_6, p1_7, p1_8, p1_9, p1_10, p1_11, p1_12, p1_13⟩ := h1
  have c1_0_2 : g1 0 2 = g 0 2 := F1 0 2 (by first | (simp [fr_S_text]; done) | (unfold fr_S_text; omega))
  have c1_2_8 : g1 2 8 = g 2 8 := F1 2 8 (by first | (simp [fr_S_text]; done) | (unfold fr_S_text; omega))
  have c1_2_11 : g1 2 11 = g 2 11 := F1 2 11 (by first | (simp [fr_S_text]; done) | (unfold fr_S_text; omega))
  have c1_47_8 : g1 47 8 = g 47 8 := F1 47 8 (by first | (simp [fr_S_text]; done) | (unfold fr_S_text; omega))
  have c1_47_11 : g1 47 11 = g 47 11 := F1 47 11 (by first | (simp [fr_S_text]; done) | (unfold fr_S_text; omega))
  have c1_214_6 : g1 214 6 = g 214 6 := F1 214 6 (by first | (simp [fr_S_text]; done) | (unfold fr_S_text; omega))
  have c1_214_7 : g1 214 7 = g 214 7 := F1 214 7 (by first | (simp [fr_S_text]; done) | (unfold fr_S_text; omega))
  have c1_214_13 : g1 214 13 = g 214 13 := F1 214 13 (by first | (simp [fr_S_text]; done) | (unfold fr_S_text; omega))
  have c1_214_62 : g1 214 62 = g 214 62 := F1 214 62 (by first | (simp [fr_S_text]; done) | (unfold fr_S_text; omega))
  have c1_250_264 : g1 250 264 = g 250 264 := F1 250 264 (by first | (simp [fr_S_text]; done) | (unfold fr_S_text; omega))
  have c1_250_265 : g1 250 265 = g 250 265 := F1 250 265 (by first | (simp [fr_S_text]; done) | (unfold fr_S_text; omega))
  have Z1 : zP g1 := by
    rcases p1_2 with h | h
    · exact zP_0 h
    · refine zP_eq (fun a i hc => ?_) R21
      by_cases q : a = 91 ∧ i = 1
      · rw [q.1, q.2]; exact h
      · exact F1 a i (fun w => by unfold fr_S_text at w; unfold zPc at hc; omega)
  refine zi_pop (pc' := 494) rfl rfl rfl ?_
  refine zi_aload_n (pc' := 495) rfl rfl rfl ?_
  refine zi_aload_n (pc' := 496) rfl rfl rfl ?_
  refine zi_iload_n (pc' := 497) rfl rfl rfl ?_
  refine zi_iconst (pc' := 498) rfl rfl ?_
  refine zi_iadd (pc' := 499) rfl rfl ?_
  refine zi_xald (pc' := 500) rfl rfl hL ⟨by omega, by omega⟩ ?_
  refine zi_callV (d' := 11) (as := [_]) (pc' := 503) rfl rfl rfl rfl (by decide) (s_M_text (Q := fun v g' => zk_I g' ∧ zk_fr fr_M_text g1 g' ∧ ((-1) ≤ v ∧ v ≤ 16) ∧ (g' 214 13 = 0) ∧ ((zw_s E (i + 1)) = 2 → zyMw g1 g' v) ∧ (¬ (zw_s E (i + 1)) = 2 → zyNw g1 g') ∧ ((zw_s E (i + 1)) = 1 → zyMg g1 g' v) ∧ (¬ (zw_s E (i + 1)) = 1 → zyNg g1 g') ∧ ((zw_s E (i + 1)) = 3 → zyMp g1 g' v) ∧ (¬ (zw_s E (i + 1)) = 3 → zyNp g1 g') ∧ ((zw_s E (i + 1)) < 0 ∨ 3 < (zw_s E (i + 1)) → v = -1 ∧ g' 214 33 = 0 ∧ g' 214 34 = -1) ∧ (¬ ((zw_s E (i + 1)) = 2 ∨ (zw_s E (i + 1)) = 3) → g' 214 3 = g1 214 3) ∧ ((zw_s E (i + 1)) = 0 → zqVr (zyM g1) v g') ∧ (zlrX (zw_s E (i + 1)) (zyM g1) v g1 g')) (Nat.le_refl _) (k_M_text I1 (zw_r _ _) (zTA_pre R2 R1 p1_3 (fun k => F1 222 k (by first | (simp [fr_S_text]; done) | (unfold fr_S_text; omega))) (F1 214 13 (by first | (simp [fr_S_text]; done) | (unfold fr_S_text; omega)))) (zqT_pre R2 R1 p1_3 (fun k => F1 222 k (by first | (simp [fr_S_text]; done) | (unfold fr_S_text; omega))) (F1 214 13 (by first | (simp [fr_S_text]; done) | (unfold fr_S_text; omega)))) (fun v g' I' F' h0 h1 h2 h3 h4 h5 h6 h7 h8 h9 h10 h11 => ⟨I', F', h0, h1, h2, h3, h4, h5, h6, h7, h8, h9, h10, h11⟩))) (zi_ki (fun v2 g2 h2 => ?_))
  obtain ⟨I2, F2, p2_0, p2_1, p2_2, p2_3, p2_4, p2_5, p2_6, p2_7, p2_8, p2_9, p2_10, p2_11⟩ := h2
  have c2_0_2 : g2 0 2 = g1 0 2 := F2 0 2 (by first | (simp [fr_M_text]; done) | (unfold fr_M_text; omega))
  have c2_0_8 : g2 0 8 = g1 0 8 := F2 0 8 (by first | (simp [fr_M_text]; done) | (unfold fr_M_text; omega))
  have c2_2_8 : g2 2 8 = g1 2 8 := F2 2 8 (by first | (simp [fr_M_text]; done) | (unfold fr_M_text; omega))
  have c2_2_11 : g2 2 11 = g1 2 11 := F2 2 11 (by first | (simp [fr_M_text]; done) | (unfold fr_M_text; omega))
  have c2_47_8 : g2 47 8 = g1 47 8 := F2 47 8 (by first | (simp [fr_M_text]; done) | (unfold fr_M_text; omega))
  have c2_47_11 : g2 47 11 = g1 47 11 := F2 47 11 (by first | (simp [fr_M_text]; done) | (unfold fr_M_text; omega))
  have c2_214_6 : g2 214 6 = g1 214 6 := F2 214 6 (by first | (simp [fr_M_text]; done) | (unfold fr_M_text; omega))
  have c2_214_7 : g2 214 7 = g1 214 7 := F2 214 7 (by first | (simp [fr_M_text]; done) | (unfold fr_M_text; omega))
  have c2_214_62 : g2 214 62 = g1 214 62 := F2 214 62 (by first | (simp [fr_M_text]; done) | (unfold fr_M_text; omega))
  have c2_250_264 : g2 250 264 = g1 250 264 := F2 250 264 (by first | (simp [fr_M_text]; done) | (unfold fr_M_text; omega))
  have c2_250_265 : g2 250 265 = g1 250 265 := F2 250 265 (by first | (simp [fr_M_text]; done) | (unfold fr_M_text; omega))
  have tq_ := zqT_eq (by omega) (by omega) p1_12 p1_6 p1_4 p1_8 p1_10 p2_10 p2_4 p2_2 p2_6 p2_8 (fun k => F2 191 k (by first | (simp [fr_M_text]; done) | (unfold fr_M_text; omega)))
  have lw_ : zLW g2 := zLW_text R18 (show 0 ≤ g 224 0 ∧ g 224 0 ≤ 16 from I.1 224 0).2 p1_13 p2_11 tq_.1 (fun a k h => F1 a k (fun w => by unfold fr_S_text at w; omega)) (fun a k h => F2 a k (fun w => by unfold fr_M_text at w; omega))
  have xw_ : zXw g2 := zXw_text R7 (show 0 ≤ g 19 5 ∧ g 19 5 ≤ 16 from I.1 19 5).2 p1_4 p1_5 p2_2 p2_3 (F1 214 37 (by first | (simp [fr_S_text]; done) | (unfold fr_S_text; omega))) (fun k => F1 233 k (by first | (simp [fr_S_text]; done) | (unfold fr_S_text; omega))) (F2 19 5 (by first | (simp [fr_M_text]; done) | (unfold fr_M_text; omega))) (fun k => F2 30 k (by first | (simp [fr_M_text]; done) | (unfold fr_M_text; omega))) (fun k => F2 31 k (by first | (simp [fr_M_text]; done) | (unfold fr_M_text; omega)))
  have xg_ : zXg g2 := zXg_text R9 (by omega) p1_6 p1_7 p2_4 p2_5 (F1 214 35 (by first | (simp [fr_S_text]; done) | (unfold fr_S_text; omega))) (fun k => F1 232 k (by first | (simp [fr_S_text]; done) | (unfold fr_S_text; omega))) (F2 19 2 (by first | (simp [fr_M_text]; done) | (unfold fr_M_text; omega))) (fun k => F2 29 k (by first | (simp [fr_M_text]; done) | (unfold fr_M_text; omega)))
  have Z2 : zP g2 := zP_eq (fun a i hc => F2 a i (zpf_M_text hc)) Z1
  have tE_ : (zw_s E (i + 1)) = 3 → zyE (zyM g1) := fun e => by
    have w := p1_3 (by omega) (by omega)
    exact zyE_of (T := zyM g1) w.1 w.2
  have zb_ : zBD g2 := zBD_text R11 I2 (I.1 19 10).2 (I.1 2 8).1 R3 R5 tE_ p1_6 p1_7 p1_4 p1_8 p1_9 p1_11 p2_2 p2_6 p2_7 p2_9 (fun a i h => F1 a i (fun w => by unfold fr_S_text at w; omega)) (fun a i h => F2 a i (fun w => by unfold fr_M_text at w; omega)) (fun a i h => by (try unfold zFsx at h); (try unfold zFt at h); exact (F2 a i (fun w => by unfold fr_M_text at w; omega)).trans (F1 a i (fun w => by unfold fr_S_text at w; omega)))
  have zf2_ : zFD g2 := zFD_text R20 (by rw [F2 91 1 (by first | (simp [fr_M_text]; done) | (unfold fr_M_text; omega))]; exact p1_2) (fun a i h h9 => by unfold zFe at h; exact (F2 a i (fun w => by unfold fr_M_text at w; omega)).trans (F1 a i (fun w => by unfold fr_S_text at w; omega)))
  refine zi_pop (pc' := 504) rfl rfl rfl ?_
  refine zi_goto (x := 1356) rfl ?_
  exact k _ ⟨I2, (by rw [c2_0_2, c1_0_2, c2_214_62, c1_214_62]; exact R0), by omega, (funext fun k => by rw [F2 190 k (by first | (simp [fr_M_text]; done) | (unfold fr_M_text; omega)), F1 190 k (by first | (simp [fr_S_text]; done) | (unfold fr_S_text; omega)), F2 222 k (by first | (simp [fr_M_text]; done) | (unfold fr_M_text; omega)), F1 222 k (by first | (simp [fr_S_text]; done) | (unfold fr_S_text; omega))]; exact congrFun R2 k), (by rw [c2_2_8, c1_2_8, c2_214_6, c1_214_6]; exact R3), (fun q => by rw [c2_47_8, c1_47_8, c2_250_264, c1_250_264]; exact R4 (by rw [c2_0_2, c1_0_2] at q; exact q)), (by rw [c2_2_11, c1_2_11, c2_214_7, c1_214_7]; exact R5), (fun q => by rw [c2_47_11, c1_47_11, c2_250_265, c1_250_265]; exact R6 (by rw [c2_0_2, c1_0_2] at q; exact q)), xw_, (fun q => zXwk_n (R8 (by omega)) (by rw [F2 64 5 (by first | (simp [fr_M_text]; done) | (unfold fr_M_text; omega)), F1 64 5 (by first | (simp [fr_S_text]; done) | (unfold fr_S_text; omega))]) (fun k => by rw [F2 75 k (by first | (simp [fr_M_text]; done) | (unfold fr_M_text; omega)), F1 75 k (by first | (simp [fr_S_text]; done) | (unfold fr_S_text; omega))]) (fun k => by rw [F2 76 k (by first | (simp [fr_M_text]; done) | (unfold fr_M_text; omega)), F1 76 k (by first | (simp [fr_S_text]; done) | (unfold fr_S_text; omega))]) (fun k => by rw [F2 250 k (by first | (simp [fr_M_text]; done) | (unfold fr_M_text; omega)), F1 250 k (by first | (simp [fr_S_text]; done) | (unfold fr_S_text; omega))])), xg_, (fun q => zXgk_n (R10 (by omega)) (by rw [F2 64 2 (by first | (simp [fr_M_text]; done) | (unfold fr_M_text; omega)), F1 64 2 (by first | (simp [fr_S_text]; done) | (unfold fr_S_text; omega))]) (fun k => by rw [F2 74 k (by first | (simp [fr_M_text]; done) | (unfold fr_M_text; omega)), F1 74 k (by first | (simp [fr_S_text]; done) | (unfold fr_S_text; omega))]) (fun k => by rw [F2 250 k (by first | (simp [fr_M_text]; done) | (unfold fr_M_text; omega)), F1 250 k (by first | (simp [fr_S_text]; done) | (unfold fr_S_text; omega))])), zb_, (zRw_n (fun k => by rw [F2 5 k (by first | (simp [fr_M_text]; done) | (unfold fr_M_text; omega)), F1 5 k (by first | (simp [fr_S_text]; done) | (unfold fr_S_text; omega))]) (fun k => by rw [F2 220 k (by first | (simp [fr_M_text]; done) | (unfold fr_M_text; omega)), F1 220 k (by first | (simp [fr_S_text]; done) | (unfold fr_S_text; omega))]) R12), (fun q => zRw_nk (fun k => by rw [F2 50 k (by first | (simp [fr_M_text]; done) | (unfold fr_M_text; omega)), F1 50 k (by first | (simp [fr_S_text]; done) | (unfold fr_S_text; omega))]) (fun k => by rw [F2 250 k (by first | (simp [fr_M_text]; done) | (unfold fr_M_text; omega)), F1 250 k (by first | (simp [fr_S_text]; done) | (unfold fr_S_text; omega))]) (R13 (by omega))), (zRw_n (fun k => by rw [F2 3 k (by first | (simp [fr_M_text]; done) | (unfold fr_M_text; omega)), F1 3 k (by first | (simp [fr_S_text]; done) | (unfold fr_S_text; omega))]) (fun k => by rw [F2 218 k (by first | (simp [fr_M_text]; done) | (unfold fr_M_text; omega)), F1 218 k (by first | (simp [fr_S_text]; done) | (unfold fr_S_text; omega))]) R14), (fun q => zRw_nk (fun k => by rw [F2 48 k (by first | (simp [fr_M_text]; done) | (unfold fr_M_text; omega)), F1 48 k (by first | (simp [fr_S_text]; done) | (unfold fr_S_text; omega))]) (fun k => by rw [F2 250 k (by first | (simp [fr_M_text]; done) | (unfold fr_M_text; omega)), F1 250 k (by first | (simp [fr_S_text]; done) | (unfold fr_S_text; omega))]) (R15 (by omega))), (zRw_n (fun k => by rw [F2 4 k (by first | (simp [fr_M_text]; done) | (unfold fr_M_text; omega)), F1 4 k (by first | (simp [fr_S_text]; done) | (unfold fr_S_text; omega))]) (fun k => by rw [F2 219 k (by first | (simp [fr_M_text]; done) | (unfold fr_M_text; omega)), F1 219 k (by first | (simp [fr_S_text]; done) | (unfold fr_S_text; omega))]) R16), (fun q => zRw_nk (fun k => by rw [F2 49 k (by first | (simp [fr_M_text]; done) | (unfold fr_M_text; omega)), F1 49 k (by first | (simp [fr_S_text]; done) | (unfold fr_S_text; omega))]) (fun k => by rw [F2 250 k (by first | (simp [fr_M_text]; done) | (unfold fr_M_text; omega)), F1 250 k (by first | (simp [fr_S_text]; done) | (unfold fr_S_text; omega))]) (R17 (by omega))), lw_, (fun q => zLWk_n (R19 (by omega)) (fun a i h => (F2 a i (zbg_M_textFlk h)).trans (F1 a i (zbg_S_textFlk h)))), zf2_, Z2⟩
theorem zpf_M_fault {a : Nat} {i : Int} (hc : zPc a i) : ¬ fr_M_fault a i := fun w => by
  have ha := zPc_le hc
  unfold fr_M_fault at w
  clear hc
  omega
theorem zbg_M_faultFt {a : Nat} {i : Int} (h : zFt a i) : ¬ fr_M_fault a i := fun w => by
  unfold fr_M_fault at w
  unfold zFt at h
  omega
theorem zbg_M_faultFc {a : Nat} {i : Int} (h : zFc a i) : ¬ fr_M_fault a i := fun w => by
  unfold fr_M_fault at w
  unfold zFc at h
  omega
theorem zbg_M_faultFlw {a : Nat} {i : Int} (h : zFlw a i) : ¬ fr_M_fault a i := fun w => by
  unfold fr_M_fault at w
  unfold zFlw at h
  omega
theorem zbg_M_faultFlk {a : Nat} {i : Int} (h : zFlk a i) : ¬ fr_M_fault a i := fun w => by
  unfold fr_M_fault at w
  unfold zFlk at h
  omega
theorem zbg_M_faultFe {a : Nat} {i : Int} (h : zFe a i) : ¬ fr_M_fault a i := fun w => by
  unfold fr_M_fault at w
  unfold zFe at h
  omega
set_option maxRecDepth 100000 in
set_option maxHeartbeats 4000000 in
theorem zw_c9 {E : sx_E} {i : Int} {g : zi_M} (hL : sx_Ln E ≤ 3072) (h0 : 0 ≤ i) (h6 : i + 6 ≤ ((sx_Ln E : Nat) : Int)) (R : zw_R g) (k : ∀ g' : zi_M, zw_R g' → zi_W E 420 326 1356 [some (.ref 1000000000), some (.ref 0), some (.ref 214), some (zi_i i)] [] g' zw_Q) : zi_W E 420 326 507 [some (.ref 1000000000), some (.ref 0), some (.ref 214), some (zi_i i)] [] g zw_Q := by
  obtain ⟨I, R0, R1, R2, R3, R4, R5, R6, R7, R8, R9, R10, R11, R12, R13, R14, R15, R16, R17, R18, R19, R20, R21⟩ := R
  refine zi_aload_n (pc' := 508) rfl rfl rfl ?_
  refine zi_aload_n (pc' := 509) rfl rfl rfl ?_
  refine zi_iload_n (pc' := 510) rfl rfl rfl ?_
  refine zi_iconst (pc' := 511) rfl rfl ?_
  refine zi_iadd (pc' := 512) rfl rfl ?_
  refine zi_xald (pc' := 513) rfl rfl hL ⟨by omega, by omega⟩ ?_
  refine zi_callV (d' := 1) (as := [_]) (pc' := 516) rfl rfl rfl rfl (by decide) (s_S_fault (Q := fun v g' => g' = g) (Nat.le_refl _) (k_S_fault I (zw_r _ _) (by intros; rfl))) (zi_ki (fun v1 g1 h1 => ?_))
  have E1 : g1 = g := h1
  rw [E1]
  refine zi_pop (pc' := 517) rfl rfl rfl ?_
  refine zi_aload_n (pc' := 518) rfl rfl rfl ?_
  refine zi_aload_n (pc' := 519) rfl rfl rfl ?_
  refine zi_iload_n (pc' := 520) rfl rfl rfl ?_
  refine zi_iconst (pc' := 521) rfl rfl ?_
  refine zi_iadd (pc' := 522) rfl rfl ?_
  refine zi_xald (pc' := 523) rfl rfl hL ⟨by omega, by omega⟩ ?_
  refine zi_callV (d' := 1) (as := [_]) (pc' := 526) rfl rfl rfl rfl (by decide) (s_M_fault (Q := fun v g' => zk_I g' ∧ zk_fr fr_M_fault g g') (Nat.le_refl _) (k_M_fault I (zw_r _ _) (fun v g' I' F' h0 h1 h2 h3 => ⟨I', F'⟩))) (zi_ki (fun v2 g2 h2 => ?_))
  obtain ⟨I2, F2⟩ := h2
  have c2_0_2 : g2 0 2 = g 0 2 := F2 0 2 (by first | (simp [fr_M_fault]; done) | (unfold fr_M_fault; omega))
  have c2_0_8 : g2 0 8 = g 0 8 := F2 0 8 (by first | (simp [fr_M_fault]; done) | (unfold fr_M_fault; omega))
  have c2_2_8 : g2 2 8 = g 2 8 := F2 2 8 (by first | (simp [fr_M_fault]; done) | (unfold fr_M_fault; omega))
  have c2_2_11 : g2 2 11 = g 2 11 := F2 2 11 (by first | (simp [fr_M_fault]; done) | (unfold fr_M_fault; omega))
  have c2_47_8 : g2 47 8 = g 47 8 := F2 47 8 (by first | (simp [fr_M_fault]; done) | (unfold fr_M_fault; omega))
  have c2_47_11 : g2 47 11 = g 47 11 := F2 47 11 (by first | (simp [fr_M_fault]; done) | (unfold fr_M_fault; omega))
  have c2_214_6 : g2 214 6 = g 214 6 := F2 214 6 (by first | (simp [fr_M_fault]; done) | (unfold fr_M_fault; omega))
  have c2_214_7 : g2 214 7 = g 214 7 := F2 214 7 (by first | (simp [fr_M_fault]; done) | (unfold fr_M_fault; omega))
  have c2_214_13 : g2 214 13 = g 214 13 := F2 214 13 (by first | (simp [fr_M_fault]; done) | (unfold fr_M_fault; omega))
  have c2_214_62 : g2 214 62 = g 214 62 := F2 214 62 (by first | (simp [fr_M_fault]; done) | (unfold fr_M_fault; omega))
  have c2_250_264 : g2 250 264 = g 250 264 := F2 250 264 (by first | (simp [fr_M_fault]; done) | (unfold fr_M_fault; omega))
  have c2_250_265 : g2 250 265 = g 250 265 := F2 250 265 (by first | (simp [fr_M_fault]; done) | (unfold fr_M_fault; omega))
  have Z2 : zP g2 := zP_eq (fun a i hc => F2 a i (zpf_M_fault hc)) R21
  refine zi_pop (pc' := 527) rfl rfl rfl ?_
  refine zi_goto (x := 1356) rfl ?_
  exact k _ ⟨I2, (by rw [c2_0_2, c2_214_62]; exact R0), (by rw [c2_0_8, c2_214_13]; exact R1), (funext fun k => by rw [F2 190 k (by first | (simp [fr_M_fault]; done) | (unfold fr_M_fault; omega)), F2 222 k (by first | (simp [fr_M_fault]; done) | (unfold fr_M_fault; omega))]; exact congrFun R2 k), (by rw [c2_2_8, c2_214_6]; exact R3), (fun q => by rw [c2_47_8, c2_250_264]; exact R4 (by rw [c2_0_2] at q; exact q)), (by rw [c2_2_11, c2_214_7]; exact R5), (fun q => by rw [c2_47_11, c2_250_265]; exact R6 (by rw [c2_0_2] at q; exact q)), (zXw_n R7 (by rw [F2 19 5 (by first | (simp [fr_M_fault]; done) | (unfold fr_M_fault; omega))]) (by rw [F2 214 37 (by first | (simp [fr_M_fault]; done) | (unfold fr_M_fault; omega))]) (fun k => by rw [F2 30 k (by first | (simp [fr_M_fault]; done) | (unfold fr_M_fault; omega))]) (fun k => by rw [F2 31 k (by first | (simp [fr_M_fault]; done) | (unfold fr_M_fault; omega))]) (fun k _ => by rw [F2 233 k (by first | (simp [fr_M_fault]; done) | (unfold fr_M_fault; omega))]) (show 0 ≤ g 19 5 ∧ g 19 5 ≤ 16 from I.1 19 5).2), (fun q => zXwk_n (R8 (by omega)) (by rw [F2 64 5 (by first | (simp [fr_M_fault]; done) | (unfold fr_M_fault; omega))]) (fun k => by rw [F2 75 k (by first | (simp [fr_M_fault]; done) | (unfold fr_M_fault; omega))]) (fun k => by rw [F2 76 k (by first | (simp [fr_M_fault]; done) | (unfold fr_M_fault; omega))]) (fun k => by rw [F2 250 k (by first | (simp [fr_M_fault]; done) | (unfold fr_M_fault; omega))])), (zXg_n R9 (by rw [F2 19 2 (by first | (simp [fr_M_fault]; done) | (unfold fr_M_fault; omega))]) (by rw [F2 214 35 (by first | (simp [fr_M_fault]; done) | (unfold fr_M_fault; omega))]) (fun k => by rw [F2 29 k (by first | (simp [fr_M_fault]; done) | (unfold fr_M_fault; omega))]) (fun k _ => by rw [F2 232 k (by first | (simp [fr_M_fault]; done) | (unfold fr_M_fault; omega))])), (fun q => zXgk_n (R10 (by omega)) (by rw [F2 64 2 (by first | (simp [fr_M_fault]; done) | (unfold fr_M_fault; omega))]) (fun k => by rw [F2 74 k (by first | (simp [fr_M_fault]; done) | (unfold fr_M_fault; omega))]) (fun k => by rw [F2 250 k (by first | (simp [fr_M_fault]; done) | (unfold fr_M_fault; omega))])), (zBD_n R11 (fun a i h => (F2 a i (zbg_M_faultFt h))) (fun a i h => (F2 a i (zbg_M_faultFc h)))), (zRw_n (fun k => by rw [F2 5 k (by first | (simp [fr_M_fault]; done) | (unfold fr_M_fault; omega))]) (fun k => by rw [F2 220 k (by first | (simp [fr_M_fault]; done) | (unfold fr_M_fault; omega))]) R12), (fun q => zRw_nk (fun k => by rw [F2 50 k (by first | (simp [fr_M_fault]; done) | (unfold fr_M_fault; omega))]) (fun k => by rw [F2 250 k (by first | (simp [fr_M_fault]; done) | (unfold fr_M_fault; omega))]) (R13 (by omega))), (zRw_n (fun k => by rw [F2 3 k (by first | (simp [fr_M_fault]; done) | (unfold fr_M_fault; omega))]) (fun k => by rw [F2 218 k (by first | (simp [fr_M_fault]; done) | (unfold fr_M_fault; omega))]) R14), (fun q => zRw_nk (fun k => by rw [F2 48 k (by first | (simp [fr_M_fault]; done) | (unfold fr_M_fault; omega))]) (fun k => by rw [F2 250 k (by first | (simp [fr_M_fault]; done) | (unfold fr_M_fault; omega))]) (R15 (by omega))), (zRw_n (fun k => by rw [F2 4 k (by first | (simp [fr_M_fault]; done) | (unfold fr_M_fault; omega))]) (fun k => by rw [F2 219 k (by first | (simp [fr_M_fault]; done) | (unfold fr_M_fault; omega))]) R16), (fun q => zRw_nk (fun k => by rw [F2 49 k (by first | (simp [fr_M_fault]; done) | (unfold fr_M_fault; omega))]) (fun k => by rw [F2 250 k (by first | (simp [fr_M_fault]; done) | (unfold fr_M_fault; omega))]) (R17 (by omega))), (zLW_n R18 (show 0 ≤ g 224 0 ∧ g 224 0 ≤ 16 from I.1 224 0).2 (fun a i h => (F2 a i (zbg_M_faultFlw h)))), (fun q => zLWk_n (R19 (by omega)) (fun a i h => (F2 a i (zbg_M_faultFlk h)))), (zFD_n R20 (fun a i h => (F2 a i (zbg_M_faultFe h)))), Z2⟩
theorem zpf_S_of {a : Nat} {i : Int} (hc : zPc a i) : ¬ fr_S_of a i := fun w => by
  unfold fr_S_of at w
  unfold zPc at hc
  omega
theorem zpf_M_of {a : Nat} {i : Int} (hc : zPc a i) : ¬ fr_M_of a i := fun w => by
  have ha := zPc_le hc
  unfold fr_M_of at w
  clear hc
  omega
theorem zbg_M_ofFt {a : Nat} {i : Int} (h : zFt a i) : ¬ fr_M_of a i := fun w => by
  unfold fr_M_of at w
  unfold zFt at h
  omega
theorem zbg_S_ofFt {a : Nat} {i : Int} (h : zFt a i) : ¬ fr_S_of a i := fun w => by
  unfold fr_S_of at w
  unfold zFt at h
  omega
theorem zbg_M_ofFc {a : Nat} {i : Int} (h : zFc a i) : ¬ fr_M_of a i := fun w => by
  unfold fr_M_of at w
  unfold zFc at h
  omega
theorem zbg_S_ofFc {a : Nat} {i : Int} (h : zFc a i) : ¬ fr_S_of a i := fun w => by
  unfold fr_S_of at w
  unfold zFc at h
  omega
theorem zbg_M_ofFlw {a : Nat} {i : Int} (h : zFlw a i) : ¬ fr_M_of a i := fun w => by
  unfold fr_M_of at w
  unfold zFlw at h
  omega
theorem zbg_S_ofFlw {a : Nat} {i : Int} (h : zFlw a i) : ¬ fr_S_of a i := fun w => by
  unfold fr_S_of at w
  unfold zFlw at h
  omega
theorem zbg_M_ofFlk {a : Nat} {i : Int} (h : zFlk a i) : ¬ fr_M_of a i := fun w => by
  unfold fr_M_of at w
  unfold zFlk at h
  omega
theorem zbg_S_ofFlk {a : Nat} {i : Int} (h : zFlk a i) : ¬ fr_S_of a i := fun w => by
  unfold fr_S_of at w
  unfold zFlk at h
  omega
theorem zbg_M_ofFe {a : Nat} {i : Int} (h : zFe a i) : ¬ fr_M_of a i := fun w => by
  unfold fr_M_of at w
  unfold zFe at h
  omega
theorem zbg_S_ofFe {a : Nat} {i : Int} (h : zFe a i) : ¬ fr_S_of a i := fun w => by
  unfold fr_S_of at w
  unfold zFe at h
  omega
set_option maxRecDepth 100000 in
set_option maxHeartbeats 4000000 in
theorem zw_c10 {E : sx_E} {i : Int} {g : zi_M} (hL : sx_Ln E ≤ 3072) (h0 : 0 ≤ i) (h6 : i + 6 ≤ ((sx_Ln E : Nat) : Int)) (R : zw_R g) (k : ∀ g' : zi_M, zw_R g' → zi_W E 420 326 1356 [some (.ref 1000000000), some (.ref 0), some (.ref 214), some (zi_i i)] [] g' zw_Q) : zi_W E 420 326 530 [some (.ref 1000000000), some (.ref 0), some (.ref 214), some (zi_i i)] [] g zw_Q := by
  obtain ⟨I, R0, R1, R2, R3, R4, R5, R6, R7, R8, R9, R10, R11, R12, R13, R14, R15, R16, R17, R18, R19, R20, R21⟩ := R
  refine zi_aload_n (pc' := 531) rfl rfl rfl ?_
  refine zi_aload_n (pc' := 532) rfl rfl rfl ?_
  refine zi_iload_n (pc' := 533) rfl rfl rfl ?_
  refine zi_iconst (pc' := 534) rfl rfl ?_
  refine zi_iadd (pc' := 535) rfl rfl ?_
  refine zi_xald (pc' := 536) rfl rfl hL ⟨by omega, by omega⟩ ?_
  refine zi_aload_n (pc' := 537) rfl rfl rfl ?_
  refine zi_iload_n (pc' := 538) rfl rfl rfl ?_
  refine zi_iconst (pc' := 539) rfl rfl ?_
  refine zi_iadd (pc' := 540) rfl rfl ?_
  refine zi_xald (pc' := 541) rfl rfl hL ⟨by omega, by omega⟩ ?_
  refine zi_callV (d' := 4) (as := [_, _]) (pc' := 544) rfl rfl rfl rfl (by decide) (s_S_of (Q := fun v g' => zk_I g' ∧ zk_fr fr_S_of g g') (Nat.le_refl _) (k_S_of I (zw_r _ _) (zw_r _ _) (fun v g' I' F' h0 h1 => ⟨I', F'⟩))) (zi_ki (fun v1 g1 h1 => ?_))
  obtain ⟨I1, F1⟩ := h1
  have c1_0_2 : g1 0 2 = g 0 2 := F1 0 2 (by first | (simp [fr_S_of]; done) | (unfold fr_S_of; omega))
  have c1_0_8 : g1 0 8 = g 0 8 := F1 0 8 (by first | (simp [fr_S_of]; done) | (unfold fr_S_of; omega))
  have c1_2_8 : g1 2 8 = g 2 8 := F1 2 8 (by first | (simp [fr_S_of]; done) | (unfold fr_S_of; omega))
  have c1_2_11 : g1 2 11 = g 2 11 := F1 2 11 (by first | (simp [fr_S_of]; done) | (unfold fr_S_of; omega))
  have c1_47_8 : g1 47 8 = g 47 8 := F1 47 8 (by first | (simp [fr_S_of]; done) | (unfold fr_S_of; omega))
  have c1_47_11 : g1 47 11 = g 47 11 := F1 47 11 (by first | (simp [fr_S_of]; done) | (unfold fr_S_of; omega))
  have c1_214_6 : g1 214 6 = g 214 6 := F1 214 6 (by first | (simp [fr_S_of]; done) | (unfold fr_S_of; omega))
  have c1_214_7 : g1 214 7 = g 214 7 := F1 214 7 (by first | (simp [fr_S_of]; done) | (unfold fr_S_of; omega))
  have c1_214_13 : g1 214 13 = g 214 13 := F1 214 13 (by first | (simp [fr_S_of]; done) | (unfold fr_S_of; omega))
  have c1_214_62 : g1 214 62 = g 214 62 := F1 214 62 (by first | (simp [fr_S_of]; done) | (unfold fr_S_of; omega))
  have c1_250_264 : g1 250 264 = g 250 264 := F1 250 264 (by first | (simp [fr_S_of]; done) | (unfold fr_S_of; omega))
  have c1_250_265 : g1 250 265 = g 250 265 := F1 250 265 (by first | (simp [fr_S_of]; done) | (unfold fr_S_of; omega))
  have Z1 : zP g1 := zP_eq (fun a i hc => F1 a i (zpf_S_of hc)) R21
  refine zi_pop (pc' := 545) rfl rfl rfl ?_
  refine zi_aload_n (pc' := 546) rfl rfl rfl ?_
  refine zi_aload_n (pc' := 547) rfl rfl rfl ?_
  refine zi_iload_n (pc' := 548) rfl rfl rfl ?_
  refine zi_iconst (pc' := 549) rfl rfl ?_
  refine zi_iadd (pc' := 550) rfl rfl ?_
  refine zi_xald (pc' := 551) rfl rfl hL ⟨by omega, by omega⟩ ?_
  refine zi_aload_n (pc' := 552) rfl rfl rfl ?_
  refine zi_iload_n (pc' := 553) rfl rfl rfl ?_
  refine zi_iconst (pc' := 554) rfl rfl ?_
  refine zi_iadd (pc' := 555) rfl rfl ?_
  refine zi_xald (pc' := 556) rfl rfl hL ⟨by omega, by omega⟩ ?_
  refine zi_callV (d' := 6) (as := [_, _]) (pc' := 559) rfl rfl rfl rfl (by decide) (s_M_of (Q := fun v g' => zk_I g' ∧ zk_fr fr_M_of g1 g') (Nat.le_refl _) (k_M_of I1 (zw_r _ _) (zw_r _ _) (fun v g' I' F' h0 h1 => ⟨I', F'⟩))) (zi_ki (fun v2 g2 h2 => ?_))
  obtain ⟨I2, F2⟩ := h2
  have c2_0_2 : g2 0 2 = g1 0 2 := F2 0 2 (by first | (simp [fr_M_of]; done) | (unfold fr_M_of; omega))
  have c2_0_8 : g2 0 8 = g1 0 8 := F2 0 8 (by first | (simp [fr_M_of]; done) | (unfold fr_M_of; omega))
  have c2_2_8 : g2 2 8 = g1 2 8 := F2 2 8 (by first | (simp [fr_M_of]; done) | (unfold fr_M_of; omega))
  have c2_2_11 : g2 2 11 = g1 2 11 := F2 2 11 (by first | (simp [fr_M_of]; done) | (unfold fr_M_of; omega))
  have c2_47_8 : g2 47 8 = g1 47 8 := F2 47 8 (by first | (simp [fr_M_of]; done) | (unfold fr_M_of; omega))
  have c2_47_11 : g2 47 11 = g1 47 11 := F2 47 11 (by first | (simp [fr_M_of]; done) | (unfold fr_M_of; omega))
  have c2_214_6 : g2 214 6 = g1 214 6 := F2 214 6 (by first | (simp [fr_M_of]; done) | (unfold fr_M_of; omega))
  have c2_214_7 : g2 214 7 = g1 214 7 := F2 214 7 (by first | (simp [fr_M_of]; done) | (unfold fr_M_of; omega))
  have c2_214_13 : g2 214 13 = g1 214 13 := F2 214 13 (by first | (simp [fr_M_of]; done) | (unfold fr_M_of; omega))
  have c2_214_62 : g2 214 62 = g1 214 62 := F2 214 62 (by first | (simp [fr_M_of]; done) | (unfold fr_M_of; omega))
  have c2_250_264 : g2 250 264 = g1 250 264 := F2 250 264 (by first | (simp [fr_M_of]; done) | (unfold fr_M_of; omega))
  have c2_250_265 : g2 250 265 = g1 250 265 := F2 250 265 (by first | (simp [fr_M_of]; done) | (unfold fr_M_of; omega))
  have Z2 : zP g2 := zP_eq (fun a i hc => F2 a i (zpf_M_of hc)) Z1
  refine zi_pop (pc' := 560) rfl rfl rfl ?_
  refine zi_goto (x := 1356) rfl ?_
  exact k _ ⟨I2, (by rw [c2_0_2, c1_0_2, c2_214_62, c1_214_62]; exact R0), (by rw [c2_0_8, c1_0_8, c2_214_13, c1_214_13]; exact R1), (funext fun k => by rw [F2 190 k (by first | (simp [fr_M_of]; done) | (unfold fr_M_of; omega)), F1 190 k (by first | (simp [fr_S_of]; done) | (unfold fr_S_of; omega)), F2 222 k (by first | (simp [fr_M_of]; done) | (unfold fr_M_of; omega)), F1 222 k (by first | (simp [fr_S_of]; done) | (unfold fr_S_of; omega))]; exact congrFun R2 k), (by rw [c2_2_8, c1_2_8, c2_214_6, c1_214_6]; exact R3), (fun q => by rw [c2_47_8, c1_47_8, c2_250_264, c1_250_264]; exact R4 (by rw [c2_0_2, c1_0_2] at q; exact q)), (by rw [c2_2_11, c1_2_11, c2_214_7, c1_214_7]; exact R5), (fun q => by rw [c2_47_11, c1_47_11, c2_250_265, c1_250_265]; exact R6 (by rw [c2_0_2, c1_0_2] at q; exact q)), (zXw_n R7 (by rw [F2 19 5 (by first | (simp [fr_M_of]; done) | (unfold fr_M_of; omega)), F1 19 5 (by first | (simp [fr_S_of]; done) | (unfold fr_S_of; omega))]) (by rw [F2 214 37 (by first | (simp [fr_M_of]; done) | (unfold fr_M_of; omega)), F1 214 37 (by first | (simp [fr_S_of]; done) | (unfold fr_S_of; omega))]) (fun k => by rw [F2 30 k (by first | (simp [fr_M_of]; done) | (unfold fr_M_of; omega)), F1 30 k (by first | (simp [fr_S_of]; done) | (unfold fr_S_of; omega))]) (fun k => by rw [F2 31 k (by first | (simp [fr_M_of]; done) | (unfold fr_M_of; omega)), F1 31 k (by first | (simp [fr_S_of]; done) | (unfold fr_S_of; omega))]) (fun k _ => by rw [F2 233 k (by first | (simp [fr_M_of]; done) | (unfold fr_M_of; omega)), F1 233 k (by first | (simp [fr_S_of]; done) | (unfold fr_S_of; omega))]) (show 0 ≤ g 19 5 ∧ g 19 5 ≤ 16 from I.1 19 5).2), (fun q => zXwk_n (R8 (by omega)) (by rw [F2 64 5 (by first | (simp [fr_M_of]; done) | (unfold fr_M_of; omega)), F1 64 5 (by first | (simp [fr_S_of]; done) | (unfold fr_S_of; omega))]) (fun k => by rw [F2 75 k (by first | (simp [fr_M_of]; done) | (unfold fr_M_of; omega)), F1 75 k (by first | (simp [fr_S_of]; done) | (unfold fr_S_of; omega))]) (fun k => by rw [F2 76 k (by first | (simp [fr_M_of]; done) | (unfold fr_M_of; omega)), F1 76 k (by first | (simp [fr_S_of]; done) | (unfold fr_S_of; omega))]) (fun k => by rw [F2 250 k (by first | (simp [fr_M_of]; done) | (unfold fr_M_of; omega)), F1 250 k (by first | (simp [fr_S_of]; done) | (unfold fr_S_of; omega))])), (zXg_n R9 (by rw [F2 19 2 (by first | (simp [fr_M_of]; done) | (unfold fr_M_of; omega)), F1 19 2 (by first | (simp [fr_S_of]; done) | (unfold fr_S_of; omega))]) (by rw [F2 214 35 (by first | (simp [fr_M_of]; done) | (unfold fr_M_of; omega)), F1 214 35 (by first | (simp [fr_S_of]; done) | (unfold fr_S_of; omega))]) (fun k => by rw [F2 29 k (by first | (simp [fr_M_of]; done) | (unfold fr_M_of; omega)), F1 29 k (by first | (simp [fr_S_of]; done) | (unfold fr_S_of; omega))]) (fun k _ => by rw [F2 232 k (by first | (simp [fr_M_of]; done) | (unfold fr_M_of; omega)), F1 232 k (by first | (simp [fr_S_of]; done) | (unfold fr_S_of; omega))])), (fun q => zXgk_n (R10 (by omega)) (by rw [F2 64 2 (by first | (simp [fr_M_of]; done) | (unfold fr_M_of; omega)), F1 64 2 (by first | (simp [fr_S_of]; done) | (unfold fr_S_of; omega))]) (fun k => by rw [F2 74 k (by first | (simp [fr_M_of]; done) | (unfold fr_M_of; omega)), F1 74 k (by first | (simp [fr_S_of]; done) | (unfold fr_S_of; omega))]) (fun k => by rw [F2 250 k (by first | (simp [fr_M_of]; done) | (unfold fr_M_of; omega)), F1 250 k (by first | (simp [fr_S_of]; done) | (unfold fr_S_of; omega))])), (zBD_n R11 (fun a i h => (F2 a i (zbg_M_ofFt h)).trans (F1 a i (zbg_S_ofFt h))) (fun a i h => (F2 a i (zbg_M_ofFc h)).trans (F1 a i (zbg_S_ofFc h)))), (zRw_n (fun k => by rw [F2 5 k (by first | (simp [fr_M_of]; done) | (unfold fr_M_of; omega)), F1 5 k (by first | (simp [fr_S_of]; done) | (unfold fr_S_of; omega))]) (fun k => by rw [F2 220 k (by first | (simp [fr_M_of]; done) | (unfold fr_M_of; omega)), F1 220 k (by first | (simp [fr_S_of]; done) | (unfold fr_S_of; omega))]) R12), (fun q => zRw_nk (fun k => by rw [F2 50 k (by first | (simp [fr_M_of]; done) | (unfold fr_M_of; omega)), F1 50 k (by first | (simp [fr_S_of]; done) | (unfold fr_S_of; omega))]) (fun k => by rw [F2 250 k (by first | (simp [fr_M_of]; done) | (unfold fr_M_of; omega)), F1 250 k (by first | (simp [fr_S_of]; done) | (unfold fr_S_of; omega))]) (R13 (by omega))), (zRw_n (fun k => by rw [F2 3 k (by first | (simp [fr_M_of]; done) | (unfold fr_M_of; omega)), F1 3 k (by first | (simp [fr_S_of]; done) | (unfold fr_S_of; omega))]) (fun k => by rw [F2 218 k (by first | (simp [fr_M_of]; done) | (unfold fr_M_of; omega)), F1 218 k (by first | (simp [fr_S_of]; done) | (unfold fr_S_of; omega))]) R14), (fun q => zRw_nk (fun k => by rw [F2 48 k (by first | (simp [fr_M_of]; done) | (unfold fr_M_of; omega)), F1 48 k (by first | (simp [fr_S_of]; done) | (unfold fr_S_of; omega))]) (fun k => by rw [F2 250 k (by first | (simp [fr_M_of]; done) | (unfold fr_M_of; omega)), F1 250 k (by first | (simp [fr_S_of]; done) | (unfold fr_S_of; omega))]) (R15 (by omega))), (zRw_n (fun k => by rw [F2 4 k (by first | (simp [fr_M_of]; done) | (unfold fr_M_of; omega)), F1 4 k (by first | (simp [fr_S_of]; done) | (unfold fr_S_of; omega))]) (fun k => by rw [F2 219 k (by first | (simp [fr_M_of]; done) | (unfold fr_M_of; omega)), F1 219 k (by first | (simp [fr_S_of]; done) | (unfold fr_S_of; omega))]) R16), (fun q => zRw_nk (fun k => by rw [F2 49 k (by first | (simp [fr_M_of]; done) | (unfold fr_M_of; omega)), F1 49 k (by first | (simp [fr_S_of]; done) | (unfold fr_S_of; omega))]) (fun k => by rw [F2 250 k (by first | (simp [fr_M_of]; done) | (unfold fr_M_of; omega)), F1 250 k (by first | (simp [fr_S_of]; done) | (unfold fr_S_of; omega))]) (R17 (by omega))), (zLW_n R18 (show 0 ≤ g 224 0 ∧ g 224 0 ≤ 16 from I.1 224 0).2 (fun a i h => (F2 a i (zbg_M_ofFlw h)).trans (F1 a i (zbg_S_ofFlw h)))), (fun q => zLWk_n (R19 (by omega)) (fun a i h => (F2 a i (zbg_M_ofFlk h)).trans (F1 a i (zbg_S_ofFlk h)))), (zFD_n R20 (fun a i h => (F2 a i (zbg_M_ofFe h)).trans (F1 a i (zbg_S_ofFe h)))), Z2⟩
