-- by program (wip/gen/mklaw.py)
theorem zpf_M_look {a : Nat} {i : Int} (hc : zPc a i) : ¬ fr_M_look a i := fun w => by
  have ha := zPc_le hc
  unfold fr_M_look at w
  clear hc
  omega
theorem zbg_M_lookFt {a : Nat} {i : Int} (h : zFt a i) : ¬ fr_M_look a i := fun w => by
  unfold fr_M_look at w
  unfold zFt at h
  omega
theorem zbg_M_lookFc {a : Nat} {i : Int} (h : zFc a i) : ¬ fr_M_look a i := fun w => by
  unfold fr_M_look at w
  unfold zFc at h
  omega
set_option maxRecDepth 100000 in
set_option maxHeartbeats 4000000 in
theorem zw_c37 {E : sx_E} {i : Int} {g : zi_M} (hL : sx_Ln E ≤ 3072) (h0 : 0 ≤ i) (h6 : i + 6 ≤ ((sx_Ln E : Nat) : Int)) (R : zw_R g) (k : ∀ g' : zi_M, zw_R g' → zi_W E 420 326 1356 [some (.ref 1000000000), some (.ref 0), some (.ref 214), some (zi_i i)] [] g' zw_Q) : zi_W E 420 326 1333 [some (.ref 1000000000), some (.ref 0), some (.ref 214), some (zi_i i)] [] g zw_Q := by
  obtain ⟨I, R0, R1, R2, R3, R4, R5, R6, R7, R8, R9, R10, R11, R12⟩ := R
  refine zi_aload_n (pc' := 1334) rfl rfl rfl ?_
  refine zi_aload_n (pc' := 1335) rfl rfl rfl ?_
  refine zi_iload_n (pc' := 1336) rfl rfl rfl ?_
  refine zi_iconst (pc' := 1337) rfl rfl ?_
  refine zi_iadd (pc' := 1338) rfl rfl ?_
  refine zi_xald (pc' := 1339) rfl rfl hL ⟨by omega, by omega⟩ ?_
  refine zi_callV (d' := 1) (as := [_]) (pc' := 1342) rfl rfl rfl rfl (by decide) (s_S_look (Q := fun v g' => g' = g) (Nat.le_refl _) (k_S_look I (zw_r _ _) (by intros; rfl))) (zi_ki (fun v1 g1 h1 => ?_))
  have E1 : g1 = g := h1
  rw [E1]
  refine zi_pop (pc' := 1343) rfl rfl rfl ?_
  refine zi_aload_n (pc' := 1344) rfl rfl rfl ?_
  refine zi_aload_n (pc' := 1345) rfl rfl rfl ?_
  refine zi_iload_n (pc' := 1346) rfl rfl rfl ?_
  refine zi_iconst (pc' := 1347) rfl rfl ?_
  refine zi_iadd (pc' := 1348) rfl rfl ?_
  refine zi_xald (pc' := 1349) rfl rfl hL ⟨by omega, by omega⟩ ?_
  refine zi_callV (d' := 1) (as := [_]) (pc' := 1352) rfl rfl rfl rfl (by decide) (s_M_look (Q := fun v g' => zk_I g' ∧ zk_fr fr_M_look g g') (Nat.le_refl _) (k_M_look I (zw_r _ _) (fun v g' I' F' h0 => ⟨I', F'⟩))) (zi_ki (fun v2 g2 h2 => ?_))
  obtain ⟨I2, F2⟩ := h2
  have c2_0_2 : g2 0 2 = g 0 2 := F2 0 2 (by first | (simp [fr_M_look]; done) | (unfold fr_M_look; omega))
  have c2_0_8 : g2 0 8 = g 0 8 := F2 0 8 (by first | (simp [fr_M_look]; done) | (unfold fr_M_look; omega))
  have c2_2_8 : g2 2 8 = g 2 8 := F2 2 8 (by first | (simp [fr_M_look]; done) | (unfold fr_M_look; omega))
  have c2_2_11 : g2 2 11 = g 2 11 := F2 2 11 (by first | (simp [fr_M_look]; done) | (unfold fr_M_look; omega))
  have c2_47_8 : g2 47 8 = g 47 8 := F2 47 8 (by first | (simp [fr_M_look]; done) | (unfold fr_M_look; omega))
  have c2_47_11 : g2 47 11 = g 47 11 := F2 47 11 (by first | (simp [fr_M_look]; done) | (unfold fr_M_look; omega))
  have c2_214_6 : g2 214 6 = g 214 6 := F2 214 6 (by first | (simp [fr_M_look]; done) | (unfold fr_M_look; omega))
  have c2_214_7 : g2 214 7 = g 214 7 := F2 214 7 (by first | (simp [fr_M_look]; done) | (unfold fr_M_look; omega))
  have c2_214_13 : g2 214 13 = g 214 13 := F2 214 13 (by first | (simp [fr_M_look]; done) | (unfold fr_M_look; omega))
  have c2_214_62 : g2 214 62 = g 214 62 := F2 214 62 (by first | (simp [fr_M_look]; done) | (unfold fr_M_look; omega))
  have c2_250_264 : g2 250 264 = g 250 264 := F2 250 264 (by first | (simp [fr_M_look]; done) | (unfold fr_M_look; omega))
  have c2_250_265 : g2 250 265 = g 250 265 := F2 250 265 (by first | (simp [fr_M_look]; done) | (unfold fr_M_look; omega))
  have Z2 : zP g2 := zP_eq (fun a i hc => F2 a i (zpf_M_look hc)) R12
  refine zi_pop (pc' := 1353) rfl rfl rfl ?_
  refine zi_goto (x := 1356) rfl ?_
  exact k _ ⟨I2, (by rw [c2_0_2, c2_214_62]; exact R0), (by rw [c2_0_8, c2_214_13]; exact R1), (funext fun k => by rw [F2 190 k (by first | (simp [fr_M_look]; done) | (unfold fr_M_look; omega)), F2 222 k (by first | (simp [fr_M_look]; done) | (unfold fr_M_look; omega))]; exact congrFun R2 k), (by rw [c2_2_8, c2_214_6]; exact R3), (fun q => by rw [c2_47_8, c2_250_264]; exact R4 (by rw [c2_0_2] at q; exact q)), (by rw [c2_2_11, c2_214_7]; exact R5), (fun q => by rw [c2_47_11, c2_250_265]; exact R6 (by rw [c2_0_2] at q; exact q)), (zXw_n R7 (by rw [F2 19 5 (by first | (simp [fr_M_look]; done) | (unfold fr_M_look; omega))]) (by rw [F2 214 37 (by first | (simp [fr_M_look]; done) | (unfold fr_M_look; omega))]) (fun k => by rw [F2 30 k (by first | (simp [fr_M_look]; done) | (unfold fr_M_look; omega))]) (fun k => by rw [F2 31 k (by first | (simp [fr_M_look]; done) | (unfold fr_M_look; omega))]) (fun k _ => by rw [F2 233 k (by first | (simp [fr_M_look]; done) | (unfold fr_M_look; omega))]) (show 0 ≤ g 19 5 ∧ g 19 5 ≤ 16 from I.1 19 5).2), (fun q => zXwk_n (R8 (by omega)) (by rw [F2 64 5 (by first | (simp [fr_M_look]; done) | (unfold fr_M_look; omega))]) (fun k => by rw [F2 75 k (by first | (simp [fr_M_look]; done) | (unfold fr_M_look; omega))]) (fun k => by rw [F2 76 k (by first | (simp [fr_M_look]; done) | (unfold fr_M_look; omega))]) (fun k => by rw [F2 250 k (by first | (simp [fr_M_look]; done) | (unfold fr_M_look; omega))])), (zXg_n R9 (by rw [F2 19 2 (by first | (simp [fr_M_look]; done) | (unfold fr_M_look; omega))]) (by rw [F2 214 35 (by first | (simp [fr_M_look]; done) | (unfold fr_M_look; omega))]) (fun k => by rw [F2 29 k (by first | (simp [fr_M_look]; done) | (unfold fr_M_look; omega))]) (fun k _ => by rw [F2 232 k (by first | (simp [fr_M_look]; done) | (unfold fr_M_look; omega))])), (fun q => zXgk_n (R10 (by omega)) (by rw [F2 64 2 (by first | (simp [fr_M_look]; done) | (unfold fr_M_look; omega))]) (fun k => by rw [F2 74 k (by first | (simp [fr_M_look]; done) | (unfold fr_M_look; omega))]) (fun k => by rw [F2 250 k (by first | (simp [fr_M_look]; done) | (unfold fr_M_look; omega))])), (zBD_n R11 (fun a i h => (F2 a i (zbg_M_lookFt h))) (fun a i h => (F2 a i (zbg_M_lookFc h)))), Z2⟩
