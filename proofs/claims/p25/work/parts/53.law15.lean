-- by program (wip/gen/mklaw.py)
theorem zpf_M_image {a : Nat} {i : Int} (hc : zPc a i) : ¬ fr_M_image a i := fun w => by
  have ha := zPc_le hc
  unfold fr_M_image at w
  clear hc
  omega
set_option maxRecDepth 100000 in
set_option maxHeartbeats 4000000 in
theorem zw_c36 {E : sx_E} {i : Int} {g : zi_M} (hL : sx_Ln E ≤ 3072) (h0 : 0 ≤ i) (h6 : i + 6 ≤ ((sx_Ln E : Nat) : Int)) (R : zw_R g) (k : ∀ g' : zi_M, zw_R g' → zi_W E 420 326 1356 [some (.ref 1000000000), some (.ref 0), some (.ref 214), some (zi_i i)] [] g' zw_Q) : zi_W E 420 326 1294 [some (.ref 1000000000), some (.ref 0), some (.ref 214), some (zi_i i)] [] g zw_Q := by
  obtain ⟨I, R0, R1, R2, R3, R4, R5, R6, R7, R8, R9, R10, R11, R12, R13, R14, R15, R16, R17, R18, R19, R20, R21⟩ := R
  refine zi_aload_n (pc' := 1295) rfl rfl rfl ?_
  refine zi_aload_n (pc' := 1296) rfl rfl rfl ?_
  refine zi_iload_n (pc' := 1297) rfl rfl rfl ?_
  refine zi_iconst (pc' := 1298) rfl rfl ?_
  refine zi_iadd (pc' := 1299) rfl rfl ?_
  refine zi_xald (pc' := 1300) rfl rfl hL ⟨by omega, by omega⟩ ?_
  have Jq1 : ∀ q1 : Int, (0 ≤ q1 ∧ q1 ≤ 1) → ((zw_s E (i + 1)) = 0 → q1 = 0) → (¬ (zw_s E (i + 1)) = 0 → q1 = 1) → zi_W E 420 326 1308 [some (.ref 1000000000), some (.ref 0), some (.ref 214), some (zi_i i)] (zi_i q1 :: .ref 0 :: []) g zw_Q := by
    intro q1 hq1 hq1z hq1o
    refine zi_callV (d' := 4) (as := [_]) (pc' := 1311) rfl rfl rfl rfl (by decide) (s_S_image (Q := fun v g' => zk_I g' ∧ zk_fr fr_S_image g g' ∧ (0 ≤ v ∧ v ≤ 1) ∧ (¬ q1 = 0 → v = 1 ∧ g' 0 2 = 1) ∧ (q1 = 0 → ¬ g 0 2 = 0 → v = 1 ∧ g' 0 2 = g 0 2) ∧ (q1 = 0 → g 0 2 = 0 → v = 0) ∧ (¬ q1 = 0 → zTc 81 36 g g' ∧ zTk 36 g g') ∧ (q1 = 0 → ¬ g 0 2 = 0 → zTc 36 81 g g' ∧ zTk 81 g g') ∧ (q1 = 0 → g 0 2 = 0 → g' = g) ∧ (q1 = 0 → ¬ g 0 2 = 0 → g' 91 1 = 0) ∧ (¬ q1 = 0 → zWc 47 2 g g' ∧ zWk g g') ∧ (q1 = 0 → ¬ g 0 2 = 0 → zWc 2 47 g g' ∧ zWj g g') ∧ (¬ q1 = 0 → zyTx 64 19 g g' ∧ zyTk 19 g g') ∧ (q1 = 0 → ¬ g 0 2 = 0 → zyTx 19 64 g g' ∧ zyTk 64 g g') ∧ (¬ q1 = 0 → zLcp 65 20 g g') ∧ (q1 = 0 → ¬ g 0 2 = 0 → zLcp 20 65 g g') ∧ (¬ q1 = 0 → zBc 59 14 g g' ∧ zBcs 14 g g') ∧ (q1 = 0 → ¬ g 0 2 = 0 → zBc 14 59 g g' ∧ zBcs 59 g g')) (Nat.le_refl _) (k_S_image I hq1 (fun v g' I' F' h0 h1 h2 h3 h4 h5 h6 h7 h8 h9 h10 h11 h12 h13 h14 h15 => ⟨I', F', h0, h1, h2, h3, h4, h5, h6, h7, h8, h9, h10, h11, h12, h13, h14, h15⟩))) (zi_kb (fun v1 g1 b1 h1 => ?_))
    obtain ⟨I1, F1, p1_0, p1_1, p1_2, p1_3, p1_4, p1_5, p1_6, p1_7, p1_8, p1_9, p1_10, p1_11, p1_12, p1_13, p1_14, p1_15⟩ := h1
    have c1_0_8 : g1 0 8 = g 0 8 := F1 0 8 (by first | (simp [fr_S_image]; done) | (unfold fr_S_image; omega))
    have c1_214_6 : g1 214 6 = g 214 6 := F1 214 6 (by first | (simp [fr_S_image]; done) | (unfold fr_S_image; omega))
    have c1_214_7 : g1 214 7 = g 214 7 := F1 214 7 (by first | (simp [fr_S_image]; done) | (unfold fr_S_image; omega))
    have c1_214_13 : g1 214 13 = g 214 13 := F1 214 13 (by first | (simp [fr_S_image]; done) | (unfold fr_S_image; omega))
    have c1_214_62 : g1 214 62 = g 214 62 := F1 214 62 (by first | (simp [fr_S_image]; done) | (unfold fr_S_image; omega))
    have c1_250_264 : g1 250 264 = g 250 264 := F1 250 264 (by first | (simp [fr_S_image]; done) | (unfold fr_S_image; omega))
    have c1_250_265 : g1 250 265 = g 250 265 := F1 250 265 (by first | (simp [fr_S_image]; done) | (unfold fr_S_image; omega))
    have bim : 0 ≤ g 0 2 ∧ g 0 2 ≤ 1 := I.1 0 2
    have s1_8 : ¬ q1 = 0 → g1 47 8 = g 2 8 ∧ g1 2 8 = g 2 8 := fun h => ⟨(p1_8 h).1.1.1, (p1_8 h).2 2 8 (by decide)⟩
    have r1_8 : q1 = 0 → ¬ g 0 2 = 0 → g1 2 8 = g 47 8 ∧ g1 47 8 = g 47 8 := fun h q => ⟨(p1_9 h q).1.1.1, (p1_9 h q).2 47 8 (by decide)⟩
    have o1_8 : q1 = 0 → g 0 2 = 0 → g1 2 8 = g 2 8 ∧ g1 47 8 = g 47 8 := fun h q => by rw [p1_6 h q]; exact ⟨rfl, rfl⟩
    have s1_11 : ¬ q1 = 0 → g1 47 11 = g 2 11 ∧ g1 2 11 = g 2 11 := fun h => ⟨(p1_8 h).1.1.2.1, (p1_8 h).2 2 11 (by decide)⟩
    have r1_11 : q1 = 0 → ¬ g 0 2 = 0 → g1 2 11 = g 47 11 ∧ g1 47 11 = g 47 11 := fun h q => ⟨(p1_9 h q).1.1.2.1, (p1_9 h q).2 47 11 (by decide)⟩
    have o1_11 : q1 = 0 → g 0 2 = 0 → g1 2 11 = g 2 11 ∧ g1 47 11 = g 47 11 := fun h q => by rw [p1_6 h q]; exact ⟨rfl, rfl⟩
    have Z1 : zP g1 := by
      by_cases h : q1 = 0
      · by_cases q : g 0 2 = 0
        · rw [p1_6 h q]; exact R21
        · exact zP_0 (p1_7 h q)
      · exact zP_eq (fun a i hc => (p1_8 h).2 a i (by unfold zPc at hc; omega)) R21
    have x1 : q1 = 0 → g 0 2 = 0 → g1 0 2 = g 0 2 := fun h q => by rw [p1_6 h q]
    refine zi_pop (pc' := 1312) rfl rfl rfl ?_
    refine zi_aload_n (pc' := 1313) rfl rfl rfl ?_
    refine zi_aload_n (pc' := 1314) rfl rfl rfl ?_
    refine zi_iload_n (pc' := 1315) rfl rfl rfl ?_
    refine zi_iconst (pc' := 1316) rfl rfl ?_
    refine zi_iadd (pc' := 1317) rfl rfl ?_
    refine zi_xald (pc' := 1318) rfl rfl hL ⟨by omega, by omega⟩ ?_
    have Jq2 : ∀ q2 : Int, (0 ≤ q2 ∧ q2 ≤ 1) → ((zw_s E (i + 1)) = 0 → q2 = 0) → (¬ (zw_s E (i + 1)) = 0 → q2 = 1) → zi_W E 420 326 1326 [some (.ref 1000000000), some (.ref 0), some (.ref 214), some (zi_i i)] (zi_i q2 :: .ref 214 :: []) g1 zw_Q := by
      intro q2 hq2 hq2z hq2o
      refine zi_callV (d' := 3) (as := [_]) (pc' := 1329) rfl rfl rfl rfl (by decide) (s_M_image (Q := fun v g' => zk_I g' ∧ zk_fr fr_M_image g1 g' ∧ (0 ≤ v ∧ v ≤ 1) ∧ ((¬ q2 = 0 ∨ ¬ g1 214 62 = 0 → v = 1) ∧ (q2 = 0 ∧ g1 214 62 = 0 → v = 0)) ∧ ((¬ q2 = 0 → g' 214 62 = 1) ∧ (q2 = 0 → g' 214 62 = g1 214 62)) ∧ (v = 1 → ¬ q2 = 0 → zimT g1 g') ∧ (v = 1 → q2 = 0 → zimR g1 g') ∧ (v = 0 → ∀ (a : Nat) (i : Int), ¬ (a = 214 ∧ i = 0) → g' a i = g1 a i) ∧ (q2 = 0 → v = 1 → g' 214 3 = 0)) (Nat.le_refl _) (k_M_image I1 hq2 (fun v g' I' F' h0 h1 h2 h3 h4 h5 h6 => ⟨I', F', h0, h1, h2, h3, h4, h5, h6⟩))) (zi_kb (fun v2 g2 b2 h2 => ?_))
      obtain ⟨I2, F2, p2_0, p2_1, p2_2, p2_3, p2_4, p2_5, p2_6⟩ := h2
      have c2_0_2 : g2 0 2 = g1 0 2 := F2 0 2 (by first | (simp [fr_M_image]; done) | (unfold fr_M_image; omega))
      have c2_0_8 : g2 0 8 = g1 0 8 := F2 0 8 (by first | (simp [fr_M_image]; done) | (unfold fr_M_image; omega))
      have c2_2_8 : g2 2 8 = g1 2 8 := F2 2 8 (by first | (simp [fr_M_image]; done) | (unfold fr_M_image; omega))
      have c2_2_11 : g2 2 11 = g1 2 11 := F2 2 11 (by first | (simp [fr_M_image]; done) | (unfold fr_M_image; omega))
      have c2_47_8 : g2 47 8 = g1 47 8 := F2 47 8 (by first | (simp [fr_M_image]; done) | (unfold fr_M_image; omega))
      have c2_47_11 : g2 47 11 = g1 47 11 := F2 47 11 (by first | (simp [fr_M_image]; done) | (unfold fr_M_image; omega))
      have c2_214_13 : g2 214 13 = g1 214 13 := F2 214 13 (by first | (simp [fr_M_image]; done) | (unfold fr_M_image; omega))
      have t2_264 : v2 = 1 → ¬ q2 = 0 → g2 250 264 = g1 214 6 ∧ g2 214 6 = g1 214 6 := fun q h => ⟨((p2_3 q h).1 264 (by decide) (by decide)).trans (by rw [show za 264 = 214 by decide +kernel, show zb 264 = 6 by decide +kernel]), (p2_3 q h).2.2 6 (by decide) (by decide) (by decide) (by decide)⟩
      have u2_264 : v2 = 1 → q2 = 0 → g2 214 6 = g1 250 264 ∧ g2 250 264 = g1 250 264 := fun q h => ⟨((p2_4 q h).1 214 6 (by decide +kernel)).trans (by rw [show zv 214 6 = 264 by decide +kernel]), (p2_4 q h).2.1 250 264 (by decide +kernel) (by decide)⟩
      have w2_264 : v2 = 0 → g2 214 6 = g1 214 6 ∧ g2 250 264 = g1 250 264 := fun q => ⟨p2_5 q 214 6 (by decide), p2_5 q 250 264 (by decide)⟩
      have t2_265 : v2 = 1 → ¬ q2 = 0 → g2 250 265 = g1 214 7 ∧ g2 214 7 = g1 214 7 := fun q h => ⟨((p2_3 q h).1 265 (by decide) (by decide)).trans (by rw [show za 265 = 214 by decide +kernel, show zb 265 = 7 by decide +kernel]), (p2_3 q h).2.2 7 (by decide) (by decide) (by decide) (by decide)⟩
      have u2_265 : v2 = 1 → q2 = 0 → g2 214 7 = g1 250 265 ∧ g2 250 265 = g1 250 265 := fun q h => ⟨((p2_4 q h).1 214 7 (by decide +kernel)).trans (by rw [show zv 214 7 = 265 by decide +kernel]), (p2_4 q h).2.1 250 265 (by decide +kernel) (by decide)⟩
      have w2_265 : v2 = 0 → g2 214 7 = g1 214 7 ∧ g2 250 265 = g1 250 265 := fun q => ⟨p2_5 q 214 7 (by decide), p2_5 q 250 265 (by decide)⟩
      obtain ⟨zf_, zs_⟩ := zgm_f (zgm_q hq1z hq1o hq2z hq2o) R0 p1_1 p1_2 x1 p2_1 p2_2 c1_214_62 c2_0_2
      obtain ⟨za_264, zk_264⟩ := zgm_c zs_ s1_8 r1_8 o1_8 t2_264 u2_264 w2_264 c1_214_6 c1_250_264 c2_2_8 c2_47_8 bim R3 R4
      obtain ⟨za_265, zk_265⟩ := zgm_c zs_ s1_11 r1_11 o1_11 t2_265 u2_265 w2_265 c1_214_7 c1_250_265 c2_2_11 c2_47_11 bim R5 R6
      have LW2 : zLW g2 ∧ (g2 0 2 = 1 → zLWk g2) := by
        by_cases h : q1 = 0
        · by_cases q : g 0 2 = 0
          · have hv : v2 = 0 := by omega
            refine ⟨zLW_n R18 (show 0 ≤ g 224 0 ∧ g 224 0 ≤ 16 from I.1 224 0).2 (fun a k w => by rw [p2_5 hv a k (by omega), p1_6 h q]), fun w => ?_⟩
            exfalso; omega
          · have hv : v2 = 1 := by omega
            exact ⟨zLW_r (R19 (by omega)) (show 0 ≤ g 65 7 ∧ g 65 7 ≤ 16 from I.1 65 7).2 (p1_13 h q) (fun a k h => F1 a k (fun w => by unfold fr_S_image at w; omega)) (fun a k h => F2 a k (fun w => by unfold fr_M_image at w; omega)) (p2_4 hv (by omega)), fun _ => zLWk_r (R19 (by omega)) (p1_11 h q).2 (fun a k h => F1 a k (fun w => by unfold fr_S_image at w; omega)) (fun a k h => F2 a k (fun w => by unfold fr_M_image at w; omega)) (p2_4 hv (by omega))⟩
        · have hv : v2 = 1 := by omega
          exact ⟨zLW_t R18 (show 0 ≤ g 224 0 ∧ g 224 0 ≤ 16 from I.1 224 0).2 (p1_10 h).2 (fun a k h => F1 a k (fun w => by unfold fr_S_image at w; omega)) (fun a k h => F2 a k (fun w => by unfold fr_M_image at w; omega)) (p2_3 hv (by omega)), fun _ => zLWk_t R18 (show 0 ≤ g 20 7 ∧ g 20 7 ≤ 16 from I.1 20 7).2 (p1_12 h) (fun a k h => F1 a k (fun w => by unfold fr_S_image at w; omega)) (p2_3 hv (by omega))⟩
      have XzXw2 : zXw g2 ∧ (g2 0 2 = 1 → zXwk g2) := by
        by_cases h : q1 = 0
        · by_cases q : g 0 2 = 0
          · have hv : v2 = 0 := by omega
            refine ⟨zXw_n R7 (by rw [p2_5 hv 19 5 (by omega), p1_6 h q]) (by rw [p2_5 hv 214 37 (by omega), p1_6 h q]) (fun k => by rw [p2_5 hv 30 k (by omega), p1_6 h q]) (fun k => by rw [p2_5 hv 31 k (by omega), p1_6 h q]) (fun k _ => by rw [p2_5 hv 233 k (by omega), p1_6 h q]) (show 0 ≤ g 19 5 ∧ g 19 5 ≤ 16 from I.1 19 5).2, fun w => ?_⟩
            exfalso; omega
          · have hv : v2 = 1 := by omega
            have z := zXw_r (p1_11 h q).1 (p1_11 h q).2 (fun k => F1 250 k (by first | (simp [fr_S_image]; done) | (unfold fr_S_image; omega))) (p2_4 hv (by omega)) (fun a k ha hb => F2 a k (by unfold fr_M_image; omega)) (show 0 ≤ g 64 5 ∧ g 64 5 ≤ 16 from I.1 64 5).2 (R8 (by omega))
            exact ⟨z.1, fun _ => z.2⟩
        · have hv : v2 = 1 := by omega
          have z := zXw_t (p1_10 h).1 (p1_10 h).2 (F1 214 37 (by first | (simp [fr_S_image]; done) | (unfold fr_S_image; omega))) (fun k => F1 233 k (by first | (simp [fr_S_image]; done) | (unfold fr_S_image; omega))) (p2_3 hv (by omega)) (fun a k ha hb => F2 a k (by unfold fr_M_image; omega)) (show 0 ≤ g 19 5 ∧ g 19 5 ≤ 16 from I.1 19 5).2 R7
          exact ⟨z.1, fun _ => z.2⟩
      have XzXg2 : zXg g2 ∧ (g2 0 2 = 1 → zXgk g2) := by
        by_cases h : q1 = 0
        · by_cases q : g 0 2 = 0
          · have hv : v2 = 0 := by omega
            refine ⟨zXg_n R9 (by rw [p2_5 hv 19 2 (by omega), p1_6 h q]) (by rw [p2_5 hv 214 35 (by omega), p1_6 h q]) (fun k => by rw [p2_5 hv 29 k (by omega), p1_6 h q]) (fun k _ => by rw [p2_5 hv 232 k (by omega), p1_6 h q]), fun w => ?_⟩
            exfalso; omega
          · have hv : v2 = 1 := by omega
            have z := zXg_r (p1_11 h q).1 (p1_11 h q).2 (fun k => F1 250 k (by first | (simp [fr_S_image]; done) | (unfold fr_S_image; omega))) (p2_4 hv (by omega)) (fun a k ha hb => F2 a k (by unfold fr_M_image; omega)) (R10 (by omega))
            exact ⟨z.1, fun _ => z.2⟩
        · have hv : v2 = 1 := by omega
          have z := zXg_t (p1_10 h).1 (p1_10 h).2 (F1 214 35 (by first | (simp [fr_S_image]; done) | (unfold fr_S_image; omega))) (fun k => F1 232 k (by first | (simp [fr_S_image]; done) | (unfold fr_S_image; omega))) (p2_3 hv (by omega)) (fun a k ha hb => F2 a k (by unfold fr_M_image; omega)) R9
          exact ⟨z.1, fun _ => z.2⟩
      have D2_5 : zRA 5 220 0 10 (fun _ => 0) g2 ∧ (g2 0 2 = 1 → zRK 50 275 5 10 (fun _ => 0) g2) := by
        rcases zs_ with ⟨h, h2, hv, hf⟩ | ⟨h, h2, q, hv, hf⟩ | ⟨h, h2, q, hv, hf⟩
        · have z := zRw_t zRw_220 (by decide) (p1_8 h).1.2.2.2.1 (fun k => (p1_8 h).2 5 k (by omega)) (fun k => F1 220 k (by simp [fr_S_image])) (p2_3 hv h2) (fun k => F2 5 k (by simp [fr_M_image])) (fun k => F2 50 k (by simp [fr_M_image])) R12
          exact ⟨z.1, fun _ => z.2⟩
        · have z := zRw_r zRw_220 (p1_9 h q).1.2.2.2.1 (fun k => (p1_9 h q).2 50 k (by omega)) (fun k => F1 250 k (by simp [fr_S_image])) (p2_4 hv h2) (fun k => F2 5 k (by simp [fr_M_image])) (fun k => F2 50 k (by simp [fr_M_image])) (R13 (zgm_1 bim q))
          exact ⟨z.1, fun _ => z.2⟩
        · refine ⟨zRw_n (fun k => by rw [p2_5 hv 5 k (fun w => absurd w.1 (by decide)), p1_6 h q]) (fun k => by rw [p2_5 hv 220 k (fun w => absurd w.1 (by decide)), p1_6 h q]) R12, fun w => ?_⟩
          exact absurd (w.symm.trans (hf.trans q)) (by decide)
      have D2_3 : zRA 3 218 0 10 (fun _ => 0) g2 ∧ (g2 0 2 = 1 → zRK 48 273 5 10 (fun _ => 0) g2) := by
        rcases zs_ with ⟨h, h2, hv, hf⟩ | ⟨h, h2, q, hv, hf⟩ | ⟨h, h2, q, hv, hf⟩
        · have z := zRw_t zRw_218 (by decide) (p1_8 h).1.2.1 (fun k => (p1_8 h).2 3 k (by omega)) (fun k => F1 218 k (by simp [fr_S_image])) (p2_3 hv h2) (fun k => F2 3 k (by simp [fr_M_image])) (fun k => F2 48 k (by simp [fr_M_image])) R14
          exact ⟨z.1, fun _ => z.2⟩
        · have z := zRw_r zRw_218 (p1_9 h q).1.2.1 (fun k => (p1_9 h q).2 48 k (by omega)) (fun k => F1 250 k (by simp [fr_S_image])) (p2_4 hv h2) (fun k => F2 3 k (by simp [fr_M_image])) (fun k => F2 48 k (by simp [fr_M_image])) (R15 (zgm_1 bim q))
          exact ⟨z.1, fun _ => z.2⟩
        · refine ⟨zRw_n (fun k => by rw [p2_5 hv 3 k (fun w => absurd w.1 (by decide)), p1_6 h q]) (fun k => by rw [p2_5 hv 218 k (fun w => absurd w.1 (by decide)), p1_6 h q]) R14, fun w => ?_⟩
          exact absurd (w.symm.trans (hf.trans q)) (by decide)
      have D2_4 : zRA 4 219 0 10 (fun _ => 0) g2 ∧ (g2 0 2 = 1 → zRK 49 274 5 10 (fun _ => 0) g2) := by
        rcases zs_ with ⟨h, h2, hv, hf⟩ | ⟨h, h2, q, hv, hf⟩ | ⟨h, h2, q, hv, hf⟩
        · have z := zRw_t zRw_219 (by decide) (p1_8 h).1.2.2.1 (fun k => (p1_8 h).2 4 k (by omega)) (fun k => F1 219 k (by simp [fr_S_image])) (p2_3 hv h2) (fun k => F2 4 k (by simp [fr_M_image])) (fun k => F2 49 k (by simp [fr_M_image])) R16
          exact ⟨z.1, fun _ => z.2⟩
        · have z := zRw_r zRw_219 (p1_9 h q).1.2.2.1 (fun k => (p1_9 h q).2 49 k (by omega)) (fun k => F1 250 k (by simp [fr_S_image])) (p2_4 hv h2) (fun k => F2 4 k (by simp [fr_M_image])) (fun k => F2 49 k (by simp [fr_M_image])) (R17 (zgm_1 bim q))
          exact ⟨z.1, fun _ => z.2⟩
        · refine ⟨zRw_n (fun k => by rw [p2_5 hv 4 k (fun w => absurd w.1 (by decide)), p1_6 h q]) (fun k => by rw [p2_5 hv 219 k (fun w => absurd w.1 (by decide)), p1_6 h q]) R16, fun w => ?_⟩
          exact absurd (w.symm.trans (hf.trans q)) (by decide)
      have zb_ : zBD g2 := by
        rcases zs_ with ⟨h, h2, hv, hf⟩ | ⟨h, h2, q, hv, hf⟩ | ⟨h, h2, q, hv, hf⟩
        · exact zBD_it (p1_8 h).1 (p1_8 h).2 (p1_10 h).1 (p1_10 h).2 (fun a i h => F1 a i (fun w => by unfold fr_S_image at w; omega)) (p2_3 hv h2) (fun a i h => F2 a i (fun w => by unfold fr_M_image at w; omega)) R3 R5 (I.1 19 10).2 R11
        · exact zBD_ir (p1_9 h q).1 (p1_9 h q).2 (p1_7 h q) (p1_11 h q).1 (p1_11 h q).2 (fun a i h => F1 a i (fun w => by unfold fr_S_image at w; omega)) (p2_4 hv h2) (p2_6 h2 hv) (fun a i h => F2 a i (fun w => by unfold fr_M_image at w; omega)) (R6 (zgm_1 bim q)) (I.1 64 10).2 (R11.2.2.2.2.2 (zgm_1 bim q))
        · exact zBD_n R11 (fun a i w => by rw [p2_5 hv a i (fun z => by unfold zFt at w; omega), p1_6 h q]) (fun a i w => by rw [p2_5 hv a i (fun z => by unfold zFc at w; omega), p1_6 h q])
      have zf2_ : zFD g2 := by
        rcases zs_ with ⟨h, h2, hv, hf⟩ | ⟨h, h2, q, hv, hf⟩ | ⟨h, h2, q, hv, hf⟩
        · exact zFD_it (p1_8 h).1 (p1_8 h).2 (p1_14 h).1 (p1_14 h).2 (fun a i h => F1 a i (fun w => by unfold fr_S_image at w; omega)) (p2_3 hv h2) (fun a i h => F2 a i (fun w => by unfold fr_M_image at w; omega)) (fun a i h => by (exact (F2 a i (fun w => by unfold fr_M_image at w; omega)).trans (F1 a i (fun w => by unfold fr_S_image at w; omega)))) R20
        · exact zFD_ir (p1_9 h q).1 (p1_9 h q).2 (p1_7 h q) (p1_15 h q).1 (p1_15 h q).2 (fun a i h => F1 a i (fun w => by unfold fr_S_image at w; omega)) (p2_4 hv h2) (fun a i h => F2 a i (fun w => by unfold fr_M_image at w; omega)) (fun a i h => by (exact (F2 a i (fun w => by unfold fr_M_image at w; omega)).trans (F1 a i (fun w => by unfold fr_S_image at w; omega)))) R20 (R20.2.2.2 (zgm_1 bim q))
        · exact zFD_n R20 (fun a i w => by rw [p2_5 hv a i (fun z => by unfold zFe at w; omega), p1_6 h q])
      clear p1_4 p1_5 p1_6 p1_8 p1_9
      clear p2_3 p2_4 p2_5
      have Z2 : zP g2 := zP_eq (fun a i hc => F2 a i (zpf_M_image hc)) Z1
      refine zi_pop (pc' := 1330) rfl rfl rfl ?_
      refine zi_goto (x := 1356) rfl ?_
      exact k _ ⟨I2, zf_, (by rw [c2_0_8, c1_0_8, c2_214_13, c1_214_13]; exact R1), (funext fun k => by rw [F2 190 k (by first | (simp [fr_M_image]; done) | (unfold fr_M_image; omega)), F1 190 k (by first | (simp [fr_S_image]; done) | (unfold fr_S_image; omega)), F2 222 k (by first | (simp [fr_M_image]; done) | (unfold fr_M_image; omega)), F1 222 k (by first | (simp [fr_S_image]; done) | (unfold fr_S_image; omega))]; exact congrFun R2 k), za_264, zk_264, za_265, zk_265, XzXw2.1, XzXw2.2, XzXg2.1, XzXg2.2, zb_, D2_5.1, D2_5.2, D2_3.1, D2_3.2, D2_4.1, D2_4.2, LW2.1, LW2.2, zf2_, Z2⟩
    refine zi_if_eq (x := 1325) (pc' := 1321) rfl rfl (zw_r _ _) (fun c => ?_) (fun c => ?_)
    · refine zi_iconst (pc' := 1326) rfl rfl ?_
      exact Jq2 0 (by decide) (fun _ => rfl) (fun h => absurd c h)
    · refine zi_iconst (pc' := 1322) rfl rfl ?_
      refine zi_goto (x := 1326) rfl ?_
      exact Jq2 1 (by decide) (fun h => absurd h c) (fun _ => rfl)
  refine zi_if_eq (x := 1307) (pc' := 1303) rfl rfl (zw_r _ _) (fun c => ?_) (fun c => ?_)
  · refine zi_iconst (pc' := 1308) rfl rfl ?_
    exact Jq1 0 (by decide) (fun _ => rfl) (fun h => absurd c h)
  · refine zi_iconst (pc' := 1304) rfl rfl ?_
    refine zi_goto (x := 1308) rfl ?_
    exact Jq1 1 (by decide) (fun h => absurd h c) (fun _ => rfl)
theorem zpf_M_look {a : Nat} {i : Int} (hc : zPc a i) : ¬ fr_M_look a i := fun w => by
  have ha := zPc_le hc
  unfold fr_M_look at w
  clear hc
  omega
theorem zbg_M_lookFt {a : Nat} {i : Int} (h : zFt a i) : ¬ fr_M_look a i := fun w => by
  unfold fr_M_look at w
  unfold zFt at h
  omega
theorem zbg_M_lookFc {a : Nat} {i : Int} (h : zFc a i) : ¬ fr_M_look a i := fun w => by
  unfold fr_M_look at w
  unfold zFc at h
  omega
theorem zbg_M_lookFlw {a : Nat} {i : Int} (h : zFlw a i) : ¬ fr_M_look a i := fun w => by
  unfold fr_M_look at w
  unfold zFlw at h
  omega
theorem zbg_M_lookFlk {a : Nat} {i : Int} (h : zFlk a i) : ¬ fr_M_look a i := fun w => by
  unfold fr_M_look at w
  unfold zFlk at h
  omega
theorem zbg_M_lookFe {a : Nat} {i : Int} (h : zFe a i) : ¬ fr_M_look a i := fun w => by
  unfold fr_M_look at w
  unfold zFe at h
  omega
set_option maxRecDepth 100000 in
set_option maxHeartbeats 4000000 in
theorem zw_c37 {E : sx_E} {i : Int} {g : zi_M} (hL : sx_Ln E ≤ 3072) (h0 : 0 ≤ i) (h6 : i + 6 ≤ ((sx_Ln E : Nat) : Int)) (R : zw_R g) (k : ∀ g' : zi_M, zw_R g' → zi_W E 420 326 1356 [some (.ref 1000000000), some (.ref 0), some (.ref 214), some (zi_i i)] [] g' zw_Q) : zi_W E 420 326 1333 [some (.ref 1000000000), some (.ref 0), some (.ref 214), some (zi_i i)] [] g zw_Q := by
  obtain ⟨I, R0, R1, R2, R3, R4, R5, R6, R7, R8, R9, R10, R11, R12, R13, R14, R15, R16, R17, R18, R19, R20, R21⟩ := R
  refine zi_aload_n (pc' := 1334) rfl rfl rfl ?_
  refine zi_aload_n (pc' := 1335) rfl rfl rfl ?_
  refine zi_iload_n (pc' := 1336) rfl rfl rfl ?_
  refine zi_iconst (pc' := 1337) rfl rfl ?_
  refine zi_iadd (pc' := 1338) rfl rfl ?_
  refine zi_xald (pc' := 1339) rfl rfl hL ⟨by omega, by omega⟩ ?_
  refine zi_callV (d' := 1) (as := [_]) (pc' := 1342) rfl rfl rfl rfl (by decide) (s_S_look (Q := fun v g' => g' = g) (Nat.le_refl _) (k_S_look I (zw_r _ _) (by intros; rfl))) (zi_ki (fun v1 g1 h1 => ?_))
  have E1 : g1 = g := h1
  rw [E1]
  refine zi_pop (pc' := 1343) rfl rfl rfl ?_
  refine zi_aload_n (pc' := 1344) rfl rfl rfl ?_
  refine zi_aload_n (pc' := 1345) rfl rfl rfl ?_
  refine zi_iload_n (pc' := 1346) rfl rfl rfl ?_
  refine zi_iconst (pc' := 1347) rfl rfl ?_
  refine zi_iadd (pc' := 1348) rfl rfl ?_
  refine zi_xald (pc' := 1349) rfl rfl hL ⟨by omega, by omega⟩ ?_
  refine zi_callV (d' := 1) (as := [_]) (pc' := 1352) rfl rfl rfl rfl (by decide) (s_M_look (Q := fun v g' => zk_I g' ∧ zk_fr fr_M_look g g') (Nat.le_refl _) (k_M_look I (zw_r _ _) (fun v g' I' F' h0 h1 => ⟨I', F'⟩))) (zi_ki (fun v2 g2 h2 => ?_))
  obtain ⟨I2, F2⟩ := h2
  have c2_0_2 : g2 0 2 = g 0 2 := F2 0 2 (by first | (simp [fr_M_look]; done) | (unfold fr_M_look; omega))
  have c2_0_8 : g2 0 8 = g 0 8 := F2 0 8 (by first | (simp [fr_M_look]; done) | (unfold fr_M_look; omega))
  have c2_2_8 : g2 2 8 = g 2 8 := F2 2 8 (by first | (simp [fr_M_look]; done) | (unfold fr_M_look; omega))
  have c2_2_11 : g2 2 11 = g 2 11 := F2 2 11 (by first | (simp [fr_M_look]; done) | (unfold fr_M_look; omega))
  have c2_47_8 : g2 47 8 = g 47 8 := F2 47 8 (by first | (simp [fr_M_look]; done) | (unfold fr_M_look; omega))
  have c2_47_11 : g2 47 11 = g 47 11 := F2 47 11 (by first | (simp [fr_M_look]; done) | (unfold fr_M_look; omega))
  have c2_214_6 : g2 214 6 = g 214 6 := F2 214 6 (by first | (simp [fr_M_look]; done) | (unfold fr_M_look; omega))
  have c2_214_7 : g2 214 7 = g 214 7 := F2 214 7 (by first | (simp [fr_M_look]; done) | (unfold fr_M_look; omega))
  have c2_214_13 : g2 214 13 = g 214 13 := F2 214 13 (by first | (simp [fr_M_look]; done) | (unfold fr_M_look; omega))
  have c2_214_62 : g2 214 62 = g 214 62 := F2 214 62 (by first | (simp [fr_M_look]; done) | (unfold fr_M_look; omega))
  have c2_250_264 : g2 250 264 = g 250 264 := F2 250 264 (by first | (simp [fr_M_look]; done) | (unfold fr_M_look; omega))
  have c2_250_265 : g2 250 265 = g 250 265 := F2 250 265 (by first | (simp [fr_M_look]; done) | (unfold fr_M_look; omega))
  have Z2 : zP g2 := zP_eq (fun a i hc => F2 a i (zpf_M_look hc)) R21
  refine zi_pop (pc' := 1353) rfl rfl rfl ?_
  refine zi_goto (x := 1356) rfl ?_
  exact k _ ⟨I2, (by rw [c2_0_2, c2_214_62]; exact R0), (by rw [c2_0_8, c2_214_13]; exact R1), (funext fun k => by rw [F2 190 k (by first | (simp [fr_M_look]; done) | (unfold fr_M_look; omega)), F2 222 k (by first | (simp [fr_M_look]; done) | (unfold fr_M_look; omega))]; exact congrFun R2 k), (by rw [c2_2_8, c2_214_6]; exact R3), (fun q => by rw [c2_47_8, c2_250_264]; exact R4 (by rw [c2_0_2] at q; exact q)), (by rw [c2_2_11, c2_214_7]; exact R5), (fun q => by rw [c2_47_11, c2_250_265]; exact R6 (by rw [c2_0_2] at q; exact q)), (zXw_n R7 (by rw [F2 19 5 (by first | (simp [fr_M_look]; done) | (unfold fr_M_look; omega))]) (by rw [F2 214 37 (by first | (simp [fr_M_look]; done) | (unfold fr_M_look; omega))]) (fun k => by rw [F2 30 k (by first | (simp [fr_M_look]; done) | (unfold fr_M_look; omega))]) (fun k => by rw [F2 31 k (by first | (simp [fr_M_look]; done) | (unfold fr_M_look; omega))]) (fun k _ => by rw [F2 233 k (by first | (simp [fr_M_look]; done) | (unfold fr_M_look; omega))]) (show 0 ≤ g 19 5 ∧ g 19 5 ≤ 16 from I.1 19 5).2), (fun q => zXwk_n (R8 (by omega)) (by rw [F2 64 5 (by first | (simp [fr_M_look]; done) | (unfold fr_M_look; omega))]) (fun k => by rw [F2 75 k (by first | (simp [fr_M_look]; done) | (unfold fr_M_look; omega))]) (fun k => by rw [F2 76 k (by first | (simp [fr_M_look]; done) | (unfold fr_M_look; omega))]) (fun k => by rw [F2 250 k (by first | (simp [fr_M_look]; done) | (unfold fr_M_look; omega))])), (zXg_n R9 (by rw [F2 19 2 (by first | (simp [fr_M_look]; done) | (unfold fr_M_look; omega))]) (by rw [F2 214 35 (by first | (simp [fr_M_look]; done) | (unfold fr_M_look; omega))]) (fun k => by rw [F2 29 k (by first | (simp [fr_M_look]; done) | (unfold fr_M_look; omega))]) (fun k _ => by rw [F2 232 k (by first | (simp [fr_M_look]; done) | (unfold fr_M_look; omega))])), (fun q => zXgk_n (R10 (by omega)) (by rw [F2 64 2 (by first | (simp [fr_M_look]; done) | (unfold fr_M_look; omega))]) (fun k => by rw [F2 74 k (by first | (simp [fr_M_look]; done) | (unfold fr_M_look; omega))]) (fun k => by rw [F2 250 k (by first | (simp [fr_M_look]; done) | (unfold fr_M_look; omega))])), (zBD_n R11 (fun a i h => (F2 a i (zbg_M_lookFt h))) (fun a i h => (F2 a i (zbg_M_lookFc h)))), (zRw_n (fun k => by rw [F2 5 k (by first | (simp [fr_M_look]; done) | (unfold fr_M_look; omega))]) (fun k => by rw [F2 220 k (by first | (simp [fr_M_look]; done) | (unfold fr_M_look; omega))]) R12), (fun q => zRw_nk (fun k => by rw [F2 50 k (by first | (simp [fr_M_look]; done) | (unfold fr_M_look; omega))]) (fun k => by rw [F2 250 k (by first | (simp [fr_M_look]; done) | (unfold fr_M_look; omega))]) (R13 (by omega))), (zRw_n (fun k => by rw [F2 3 k (by first | (simp [fr_M_look]; done) | (unfold fr_M_look; omega))]) (fun k => by rw [F2 218 k (by first | (simp [fr_M_look]; done) | (unfold fr_M_look; omega))]) R14), (fun q => zRw_nk (fun k => by rw [F2 48 k (by first | (simp [fr_M_look]; done) | (unfold fr_M_look; omega))]) (fun k => by rw [F2 250 k (by first | (simp [fr_M_look]; done) | (unfold fr_M_look; omega))]) (R15 (by omega))), (zRw_n (fun k => by rw [F2 4 k (by first | (simp [fr_M_look]; done) | (unfold fr_M_look; omega))]) (fun k => by rw [F2 219 k (by first | (simp [fr_M_look]; done) | (unfold fr_M_look; omega))]) R16), (fun q => zRw_nk (fun k => by rw [F2 49 k (by first | (simp [fr_M_look]; done) | (unfold fr_M_look; omega))]) (fun k => by rw [F2 250 k (by first | (simp [fr_M_look]; done) | (unfold fr_M_look; omega))]) (R17 (by omega))), (zLW_n R18 (show 0 ≤ g 224 0 ∧ g 224 0 ≤ 16 from I.1 224 0).2 (fun a i h => (F2 a i (zbg_M_lookFlw h)))), (fun q => zLWk_n (R19 (by omega)) (fun a i h => (F2 a i (zbg_M_lookFlk h)))), (zFD_n R20 (fun a i h => (F2 a i (zbg_M_lookFe h)))), Z2⟩
