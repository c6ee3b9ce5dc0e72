-- by program (wip/gen/mkz.py)
-- SpoutNews$Thought.goodSpout(LSpoutNews$World;)I
set_option maxRecDepth 100000 in
set_option maxHeartbeats 4000000 in
theorem k_Thought_goodSpout_l2 {g : zi_M} (I : zk_I g) {K19 : Int → zi_M → Prop} {K27 : zi_M → Prop} {Q : Int → zi_M → Prop} (hK19 : ∀ (k1 : Int), (0 ≤ k1 ∧ k1 ≤ 9) → (0 ≤ k1 ∧ k1 < g 2 8) → (¬ zvTk (g 8) (g 2 8) k1 = -1) → (zGi (zvTk (g 8) (g 2 8)) k1) → K19 k1 g) (hK27 : (zGi (zvTk (g 8) (g 2 8)) (g 2 8)) → K27 g) (hQ : ∀ v : Int, ((-1) ≤ v ∧ v ≤ 9) → (zGs (zvTk (g 8) (g 2 8)) (g 2 8) v) → Q v g) : ∀ (n : Nat) {l1 : Int}, (0 ≤ l1 ∧ l1 ≤ 10) → (l1 ≤ g 2 8) → (zGi (zvTk (g 8) (g 2 8)) l1) → 10 - l1 < (n : Int) → w_Thought_goodSpout_l2 K19 K27 Q n l1 g
  | 0, l1, b0, b1, b2, hm => by exfalso; omega
  | n + 1, l1, b0, b1, b2, hm => by
    unfold w_Thought_goodSpout_l2
    have m_1 : 0 ≤ (g 2 8) ∧ (g 2 8) ≤ 10 := I.1 2 8
    refine ⟨⟨by omega, by omega⟩, ⟨by omega, by omega⟩, ?_⟩
    refine ⟨fun c8 => ?_, fun c8 => ?_⟩
    · exact hK27 (by exact zGi_x (by assumption) (by omega))
    · refine k_Thought_goodTake I ⟨by omega, by omega⟩ (fun v3 b_2 b_3 b_4 => ?_)
      refine ⟨⟨by omega, by omega⟩, ?_⟩
      refine ⟨fun c7 => ?_, fun c7 => ?_⟩
      · exact k_Thought_goodSpout_l2 I hK19 hK27 hQ n ⟨by omega, by omega⟩ (by omega) (by first | exact zGi_s (by assumption) (by assumption) ⟨by omega, by omega⟩ (by assumption) | exact zGi_0) (by omega)
      · exact hK19 _ ⟨by omega, by omega⟩ (by omega) (by exact zGs_v (by assumption) ⟨by omega, by omega⟩ (by assumption)) (by assumption)
set_option maxRecDepth 100000 in
set_option maxHeartbeats 4000000 in
theorem k_Thought_goodSpout {g : zi_M} {Q : Int → zi_M → Prop} (I : zk_I g) (hQ : ∀ v : Int, ((-1) ≤ v ∧ v ≤ 9) → (zGs (zvTk (g 8) (g 2 8)) (g 2 8) v) → Q v g) : w_Thought_goodSpout g Q := by
  unfold w_Thought_goodSpout
  have m_10 : 0 ≤ (g 2 8) ∧ (g 2 8) ≤ 10 := I.1 2 8
  refine ⟨((10 - 0 : Int).toNat + 1), k_Thought_goodSpout_l2 I (fun k9 b_5 b_6 b_7 b_8 => ?_) (fun b_9 => ?_) hQ ((10 - 0 : Int).toNat + 1) ⟨by omega, by omega⟩ (by omega) (by first | exact zGi_s (by assumption) (by assumption) ⟨by omega, by omega⟩ (by assumption) | exact zGi_0) (by omega)⟩
  · exact hQ _ ⟨by omega, by omega⟩ (by first | exact zGs_y (by assumption) (by assumption) (by assumption) | exact zGs_n (by assumption))
  · exact hQ _ ⟨by omega, by omega⟩ (by first | exact zGs_y (by assumption) (by assumption) (by assumption) | exact zGs_n (by assumption))
-- SpoutNews.game(I)I
set_option maxRecDepth 100000 in
set_option maxHeartbeats 4000000 in
theorem k_S_game {l1 : Int} {g : zi_M} {Q : Int → zi_M → Prop} (I : zk_I g) (p1 : (-2147483648) ≤ l1 ∧ l1 ≤ 2147483647) (hQ : ∀ v : Int, ((-1) ≤ v ∧ v ≤ 9) → (zgaS g l1 v) → Q v g) : w_S_game l1 g Q := by
  unfold w_S_game
  refine ⟨⟨by omega, by omega⟩, ?_⟩
  refine ⟨fun c2_0 c2_1 => ?_, fun c2 => ?_, fun c2 => ?_⟩
  · exact hQ _ ⟨by omega, by omega⟩ (by first | exact zgaP_0 (by assumption) (by assumption) | exact zgaP_1 (by assumption) (by assumption) (by assumption) (by assumption) | exact zgaP_n (by omega))
  · have m_1 : 0 ≤ (g 2 8) ∧ (g 2 8) ≤ 10 := I.1 2 8
    refine k_Thought_goodSpout I (fun v3 b_2 b_3 => ?_)
    exact hQ _ ⟨by omega, by omega⟩ (by first | exact zgaP_0 (by assumption) (by assumption) | exact zgaP_1 (by assumption) (by assumption) (by assumption) (by assumption) | exact zgaP_n (by omega))
  · have m_4 : 0 ≤ (g 2 8) ∧ (g 2 8) ≤ 10 := I.1 2 8
    refine k_Thought_goodSpout I (fun v6 b_5 b_6 => ?_)
    refine k_Thought_goodTake I ⟨by omega, by omega⟩ (fun v9 b_7 b_8 b_9 => ?_)
    exact hQ _ ⟨by omega, by omega⟩ (by first | exact zgaP_0 (by assumption) (by assumption) | exact zgaP_1 (by assumption) (by assumption) (by assumption) (by assumption) | exact zgaP_n (by omega))
-- SpoutNewsModel.game(I)I
set_option maxRecDepth 100000 in
set_option maxHeartbeats 4000000 in
theorem k_M_game_l21 {l1 : Int} {K49 : Int → zi_M → Prop} {Q : Int → zi_M → Prop} {g0 : zi_M} (hK49 : ∀ (k2 : Int) (g : zi_M), zk_I g → zk_fr fr_M_game g0 g → (0 ≤ k2 ∧ k2 ≤ 3) → (k2 = zxg g0 (g0 214 6).toNat) → K49 k2 g) (hQ : ∀ (v : Int) (g' : zi_M), zk_I g' → zk_fr fr_M_game g0 g' → ((-1) ≤ v ∧ v ≤ 9) → (zgaM g0 l1 v) → Q v g') : ∀ (n : Nat) {l2 : Int} {l3 : Int} {g : zi_M}, zk_I g → zk_fr fr_M_game g0 g → (0 ≤ l2 ∧ l2 ≤ 3) → (0 ≤ l3 ∧ l3 ≤ 10) → (l3 ≤ g0 214 6) → (l2 = zxg g0 l3.toNat) → 10 - l3 < (n : Int) → w_M_game_l21 K49 Q n l2 l3 g
  | 0, l2, l3, g, I, F, b0, b1, b2, b3, hm => by exfalso; omega
  | n + 1, l2, l3, g, I, F, b0, b1, b2, b3, hm => by
    unfold w_M_game_l21
    have m_7 : 0 ≤ (g 214 6) ∧ (g 214 6) ≤ 10 := I.1 214 6
    refine ⟨⟨by omega, by omega⟩, ⟨by omega, by omega⟩, ?_⟩
    refine ⟨fun c9 => ?_, fun c9 => ?_⟩
    · exact hK49 _ _ I F ⟨by omega, by omega⟩ (by exact zxg_x (by assumption) (by have hf := zGk_6 F; omega))
    · refine ⟨⟨by omega, by omega⟩, ?_⟩
      have m_8 := zk_now26 I (i := (26 + l3)) (by omega)
      refine ⟨⟨by omega, by omega⟩, ?_⟩
      have m_9 := zi_tmod_f (g 215 (26 + l3)) 3
      have m_10 := zi_tmod_c (g 215 (26 + l3)) 3 (by decide)
      first | have m_11 := (zi_xor_f l2 (Int.tmod (g 215 (26 + l3)) 3)).2.1 ⟨by omega, by omega, by omega, by omega⟩ | have m_11 := (zi_xor_f l2 (Int.tmod (g 215 (26 + l3)) 3)).2.2.1 ⟨by omega, by omega, by omega, by omega⟩ | have m_11 := (zi_xor_f l2 (Int.tmod (g 215 (26 + l3)) 3)).2.2.2 ⟨by omega, by omega, by omega, by omega⟩ | have m_11 := zi_r_xor l2 (Int.tmod (g 215 (26 + l3)) 3)
      exact k_M_game_l21 hK49 hQ n I F ⟨by omega, by omega⟩ ⟨by omega, by omega⟩ (by first | omega | (have hf := zGk_6 F; omega) | exact (I.1 214 6).1) (by first | exact zGk_o F (by assumption) (by omega) | rfl) (by omega)
set_option maxRecDepth 100000 in
set_option maxHeartbeats 4000000 in
theorem k_M_game_l73 {l1 : Int} {l2 : Int} {l4 : Int} {K107 : Int → zi_M → Prop} {K124 : zi_M → Prop} {Q : Int → zi_M → Prop} {g0 : zi_M} (q2 : 0 ≤ l2 ∧ l2 ≤ 3) (q4 : 0 ≤ l4 ∧ l4 ≤ 20) (hK107 : ∀ (k5 : Int) (g : zi_M), zk_I g → zk_fr fr_M_game g0 g → (1 ≤ k5 ∧ k5 ≤ 5) → (k5 = zvTm l2 l4) → (1 ≤ k5) → K107 k5 g) (hK124 : ∀ (g : zi_M), zk_I g → zk_fr fr_M_game g0 g → (zvTm l2 l4 = -1) → K124 g) (hQ : ∀ (v : Int) (g' : zi_M), zk_I g' → zk_fr fr_M_game g0 g' → ((-1) ≤ v ∧ v ≤ 9) → (zgaM g0 l1 v) → Q v g') : ∀ (n : Nat) {l5 : Int} {g : zi_M}, zk_I g → zk_fr fr_M_game g0 g → (1 ≤ l5 ∧ l5 ≤ 5) → (zvTu l4 (zi_xor l2 (Int.tmod l4 3)) l5) → 5 - l5 < (n : Int) → w_M_game_l73 l2 l4 K107 K124 Q n l5 g
  | 0, l5, g, I, F, b0, b1, hm => by exfalso; omega
  | n + 1, l5, g, I, F, b0, b1, hm => by
    unfold w_M_game_l73
    refine k_M_lesser I ⟨by omega, by omega⟩ ⟨by omega, by omega⟩ (fun v15 b_17 b_18 => ?_)
    refine ⟨⟨by omega, by omega⟩, ⟨by omega, by omega⟩, ?_⟩
    refine ⟨fun c25 => ?_, fun c25 => ?_⟩
    · exact hK124 _ I F (by exact zvTu_n (by assumption) (by omega))
    · refine ⟨fun c24 => ?_, fun c24 => ?_⟩
      · exact k_M_game_l73 q2 q4 hK107 hK124 hQ n I F ⟨by omega, by omega⟩ (by first | exact zvTu_3 (by assumption) (by assumption) | exact zvTu_s (by assumption) (by assumption) (by omega) (by assumption) | exact zvTu_0) (by omega)
      · refine ⟨⟨by omega, by omega⟩, ?_⟩
        refine ⟨⟨by omega, by omega⟩, ?_⟩
        have m_19 := zi_tmod_f (l4 - l5) 3
        have m_20 := zi_tmod_c (l4 - l5) 3 (by decide)
        refine ⟨⟨by omega, by omega⟩, ?_⟩
        have m_21 := zi_tmod_f l4 3
        have m_22 := zi_tmod_c l4 3 (by decide)
        first | have m_23 := (zi_xor_f l2 (Int.tmod l4 3)).2.1 ⟨by omega, by omega, by omega, by omega⟩ | have m_23 := (zi_xor_f l2 (Int.tmod l4 3)).2.2.1 ⟨by omega, by omega, by omega, by omega⟩ | have m_23 := (zi_xor_f l2 (Int.tmod l4 3)).2.2.2 ⟨by omega, by omega, by omega, by omega⟩ | have m_23 := zi_r_xor l2 (Int.tmod l4 3)
        refine ⟨fun c23 => ?_, fun c23 => ?_⟩
        · exact k_M_game_l73 q2 q4 hK107 hK124 hQ n I F ⟨by omega, by omega⟩ (by first | exact zvTu_3 (by assumption) (by assumption) | exact zvTu_s (by assumption) (by assumption) (by omega) (by assumption) | exact zvTu_0) (by omega)
        · exact hK107 _ _ I F ⟨by omega, by omega⟩ (by exact zvTu_y (by assumption) (by assumption) (by omega) (by omega) (by assumption)) (by omega)
set_option maxRecDepth 100000 in
set_option maxHeartbeats 4000000 in
theorem k_M_game_l51 {l1 : Int} {l2 : Int} {K107 : Int → Int → zi_M → Prop} {K130 : zi_M → Prop} {Q : Int → zi_M → Prop} {g0 : zi_M} (q2 : 0 ≤ l2 ∧ l2 ≤ 3) (hK107 : ∀ (k3 : Int) (k5 : Int) (g : zi_M), zk_I g → zk_fr fr_M_game g0 g → (0 ≤ k3 ∧ k3 ≤ 9) → (1 ≤ k5 ∧ k5 ≤ 5) → (0 ≤ k3 ∧ k3 < g0 214 6) → (k5 = zvTm l2 (g0 215 (26 + k3))) → (1 ≤ k5) → (zGj l2 g0 k3) → K107 k3 k5 g) (hK130 : ∀ (g : zi_M), zk_I g → zk_fr fr_M_game g0 g → (zGj l2 g0 (g0 214 6)) → K130 g) (hQ : ∀ (v : Int) (g' : zi_M), zk_I g' → zk_fr fr_M_game g0 g' → ((-1) ≤ v ∧ v ≤ 9) → (zgaM g0 l1 v) → Q v g') : ∀ (n : Nat) {l3 : Int} {g : zi_M}, zk_I g → zk_fr fr_M_game g0 g → (0 ≤ l3 ∧ l3 ≤ 10) → (l3 ≤ g0 214 6) → (zGj l2 g0 l3) → 10 - l3 < (n : Int) → w_M_game_l51 l2 K107 K130 Q n l3 g
  | 0, l3, g, I, F, b0, b1, b2, hm => by exfalso; omega
  | n + 1, l3, g, I, F, b0, b1, b2, hm => by
    unfold w_M_game_l51
    have m_16 : 0 ≤ (g 214 6) ∧ (g 214 6) ≤ 10 := I.1 214 6
    refine ⟨⟨by omega, by omega⟩, ⟨by omega, by omega⟩, ?_⟩
    refine ⟨fun c30 => ?_, fun c30 => ?_⟩
    · exact hK130 _ I F (by exact zGj_x (by assumption) (by have hf := zGk_6 F; omega))
    · refine ⟨⟨by omega, by omega⟩, ?_⟩
      have m_32 := zk_now26 I (i := (26 + l3)) (by omega)
      refine ⟨((5 - 1 : Int).toNat + 1), k_M_game_l73 (l2 := l2) (l4 := (g 215 (26 + l3))) ⟨by omega, by omega⟩ ⟨by omega, by omega⟩ (fun k26 g27 I_24 F_25 b_26 b_27 b_28 => ?_) (fun g28 I_29 F_30 b_31 => ?_) hQ ((5 - 1 : Int).toNat + 1) I F ⟨by omega, by omega⟩ (by first | exact zvTu_3 (by assumption) (by assumption) | exact zvTu_s (by assumption) (by assumption) (by omega) (by assumption) | exact zvTu_0) (by omega)⟩
      · exact hK107 _ _ _ I_24 F_25 ⟨by omega, by omega⟩ ⟨by omega, by omega⟩ (by have hf := zGk_6 F; omega) (by exact zGk_1 F (by assumption)) (by assumption) (by assumption)
      · exact k_M_game_l51 q2 hK107 hK130 hQ n I_29 F_30 ⟨by omega, by omega⟩ (by first | omega | (have hf := zGk_6 F; omega) | exact (I.1 214 6).1) (by first | exact zGj_s (by assumption) F (by assumption) | exact zGj_0) (by omega)
set_option maxRecDepth 100000 in
set_option maxHeartbeats 4000000 in
theorem k_M_game {l1 : Int} {g : zi_M} {Q : Int → zi_M → Prop} (I : zk_I g) (p1 : (-2147483648) ≤ l1 ∧ l1 ≤ 2147483647) (hQ : ∀ (v : Int) (g' : zi_M), zk_I g' → zk_fr fr_M_game g g' → ((-1) ≤ v ∧ v ≤ 9) → (zgaM g l1 v) → Q v g') : w_M_game l1 g Q := by
  unfold w_M_game
  intro g1 e_1
  have I_2 : zk_I g1 := by rw [e_1]; exact zk_upd (L := (-2147483648)) (H := 2147483647) rfl rfl I ⟨by omega, by omega⟩
  have F_3 : zk_fr fr_M_game g g1 := by rw [e_1]; exact zk_fu (zk_f0 _) ⟨rfl, rfl⟩
  refine k_M_isIn I_2 ⟨by omega, by omega⟩ ⟨by omega, by omega⟩ ⟨by omega, by omega⟩ (fun v2 b_4 b_5 b_6 => ?_)
  refine ⟨fun c39 => ?_, fun c39 => ?_⟩
  · refine ⟨((10 - 0 : Int).toNat + 1), k_M_game_l21 (fun k10 g11 I_12 F_13 b_14 b_15 => ?_) hQ ((10 - 0 : Int).toNat + 1) I_2 F_3 ⟨by omega, by omega⟩ ⟨by omega, by omega⟩ (by first | omega | (have hf := zGk_6 F; omega) | exact (I.1 214 6).1) (by first | exact zGk_o F (by assumption) (by omega) | rfl) (by omega)⟩
    refine ⟨((10 - 0 : Int).toNat + 1), k_M_game_l51 (l2 := k10) ⟨by omega, by omega⟩ (fun k31 k32 g33 I_33 F_34 b_35 b_36 b_37 b_38 b_39 b_40 => ?_) (fun g36 I_41 F_42 b_43 => ?_) hQ ((10 - 0 : Int).toNat + 1) I_12 F_13 ⟨by omega, by omega⟩ (by first | omega | (have hf := zGk_6 F; omega) | exact (I.1 214 6).1) (by first | exact zGj_s (by assumption) F (by assumption) | exact zGj_0) (by omega)⟩
    · refine ⟨⟨by omega, by omega⟩, ?_⟩
      refine ⟨fun c35 => ?_, fun c35 => ?_⟩
      · exact hQ _ _ I_33 F_34 ⟨by omega, by omega⟩ (by first | exact zgaM_y (by assumption) (by assumption) (by assumption) (by assumption) (by assumption) (by omega) (fun hq => by first | rfl | exact absurd hq (by assumption)) (fun hq => by first | rfl | (exfalso; omega)) | exact zgaM_z (by assumption) (by assumption) (by omega) | exact zgaP_n (by omega))
      · exact hQ _ _ I_33 F_34 ⟨by omega, by omega⟩ (by first | exact zgaM_y (by assumption) (by assumption) (by assumption) (by assumption) (by assumption) (by omega) (fun hq => by first | rfl | exact absurd hq (by assumption)) (fun hq => by first | rfl | (exfalso; omega)) | exact zgaM_z (by assumption) (by assumption) (by omega) | exact zgaP_n (by omega))
    · exact hQ _ _ I_41 F_42 ⟨by omega, by omega⟩ (by first | exact zgaM_y (by assumption) (by assumption) (by assumption) (by assumption) (by assumption) (by omega) (fun hq => by first | rfl | exact absurd hq (by assumption)) (fun hq => by first | rfl | (exfalso; omega)) | exact zgaM_z (by assumption) (by assumption) (by omega) | exact zgaP_n (by omega))
  · exact hQ _ _ I_2 F_3 ⟨by omega, by omega⟩ (by first | exact zgaM_y (by assumption) (by assumption) (by assumption) (by assumption) (by assumption) (by omega) (fun hq => by first | rfl | exact absurd hq (by assumption)) (fun hq => by first | rfl | (exfalso; omega)) | exact zgaM_z (by assumption) (by assumption) (by omega) | exact zgaP_n (by omega))
-- SpoutNews$Past.goBack(LSpoutNews$World;)Z
theorem zP_back {g g3 g4 g7 : zi_M} (I : zk_I g) (c1 : 1 ≤ g 91 1) (e1 : g3 = zi_u g 91 2 (Int.tmod (((g 91 2) + 6) - 1) 6)) (e2 : g4 = zi_u g3 91 1 ((g3 91 1) - 1)) (F : zk_fr (fr_World_copyFrom 2 (93 + 12 * (g4 91 2).toNat)) g4 g7) (W : zWc 2 (93 + 12 * (g4 91 2).toNat) g4 g7) (h : zP g) : zP g7 ∧ zQk g g7 := by
  have b : (0 : Int) ≤ g 91 2 ∧ g 91 2 ≤ 5 := I.1 91 2
  have c : (0 : Int) ≤ g 91 1 ∧ g 91 1 ≤ 6 := I.1 91 1
  have u : ∀ (a : Nat) (i : Int), a ≠ 91 → g4 a i = g a i := fun a i q => by rw [e2, zi_u_ne q, e1, zi_u_ne q]
  have n2 : g4 91 2 = (g 91 2 + 5) % 6 := by
    rw [e2, zi_u_ni (by decide), e1, zi_u_eq, Int.tmod_eq_emod_of_nonneg (by omega)]
    congr 1
    omega
  have n1 : g4 91 1 = g 91 1 - 1 := by
    rw [e2, zi_u_eq, e1, zi_u_ni (by decide)]
  have f : ∀ (a : Nat) (i : Int), 14 ≤ a → g7 a i = g4 a i := fun a i q => F a i (fun w => by unfold fr_World_copyFrom at w; omega)
  have live := h (g4 91 2) (by omega) (by omega) (by omega)
  obtain ⟨⟨a1, a2⟩, b1, b2, b3⟩ := live
  obtain ⟨⟨w1, w2, -⟩, y1, y2, y3, -⟩ := W
  have k8 : g7 2 8 = g 2 8 := by rw [w1, u _ _ (by omega), a1]
  have k11 : g7 2 11 = g 2 11 := by rw [w2, u _ _ (by omega), a2]
  have k3 : ∀ i : Int, 0 ≤ i → i < 10 → g7 3 i = g 3 i := fun i i0 i1 => by
    have := y1 i i0 i1
    rw [u _ _ (by omega), b1 i i0 i1] at this
    exact this
  have k4 : ∀ i : Int, 0 ≤ i → i < 10 → g7 4 i = g 4 i := fun i i0 i1 => by
    have := y2 i i0 i1
    rw [u _ _ (by omega), b2 i i0 i1] at this
    exact this
  have k5 : ∀ i : Int, 0 ≤ i → i < 10 → g7 5 i = g 5 i := fun i i0 i1 => by
    have := y3 i i0 i1
    rw [u _ _ (by omega), b3 i i0 i1] at this
    exact this
  refine ⟨?_, ⟨k8, k11⟩, k3, k4, k5⟩
  intro i i0 i6 hl
  rw [f 91 2 (by decide), f 91 1 (by decide), n1, n2] at hl
  have old := h i i0 i6 (by omega)
  obtain ⟨⟨a1, a2⟩, b1, b2, b3⟩ := old
  refine ⟨⟨?_, ?_⟩, fun k k0 k1 => ?_, fun k k0 k1 => ?_, fun k k0 k1 => ?_⟩
  · rw [f _ _ (by omega), u _ _ (by omega), a1, k8]
  · rw [f _ _ (by omega), u _ _ (by omega), a2, k11]
  · rw [f _ _ (by omega), u _ _ (by omega), b1 k k0 k1, k3 k k0 k1]
  · rw [f _ _ (by omega), u _ _ (by omega), b2 k k0 k1, k4 k k0 k1]
  · rw [f _ _ (by omega), u _ _ (by omega), b3 k k0 k1, k5 k k0 k1]

set_option maxRecDepth 100000 in
set_option maxHeartbeats 4000000 in
theorem k_Past_goBack {g : zi_M} {Q : Int → zi_M → Prop} (I : zk_I g) (hQ : ∀ (v : Int) (g' : zi_M), zk_I g' → zk_fr fr_Past_goBack g g' → (0 ≤ v ∧ v ≤ 1) → (zP g → zP g' ∧ zQk g g') → (zUk v g g') → Q v g') : w_Past_goBack g Q := by
  unfold w_Past_goBack
  have m_1 : 0 ≤ (g 91 1) ∧ (g 91 1) ≤ 6 := I.1 91 1
  refine ⟨⟨by omega, by omega⟩, ?_⟩
  refine ⟨fun c9 => ?_, fun c9 => ?_⟩
  · have m_2 : 0 ≤ (g 91 2) ∧ (g 91 2) ≤ 5 := I.1 91 2
    refine ⟨⟨by omega, by omega⟩, ?_⟩
    have m_6 := zi_tmod_f (((g 91 2) + 6) - 1) 6
    have m_7 := zi_tmod_c (((g 91 2) + 6) - 1) 6 (by decide)
    intro g3 e_3
    have I_4 : zk_I g3 := by rw [e_3]; exact zk_upd (L := 0) (H := 5) rfl rfl I ⟨by omega, by omega⟩
    have F_5 : zk_fr fr_Past_goBack g g3 := by rw [e_3]; exact zk_fu (zk_f0 _) (Or.inr (Or.inr (Or.inr (Or.inr (Or.inr (Or.inr (Or.inr (Or.inr (Or.inr (Or.inr (Or.inr (Or.inr (Or.inr (Or.inr (Or.inr (Or.inr (Or.inr (Or.inr (Or.inr (Or.inr ⟨rfl, rfl⟩))))))))))))))))))))
    have m_11 : 0 ≤ (g3 91 1) ∧ (g3 91 1) ≤ 6 := I_4.1 91 1
    have m_12 : g3 91 1 = g 91 1 := by rw [e_3]; exact zi_u_ni (by decide)
    intro g4 e_8
    have I_9 : zk_I g4 := by rw [e_8]; exact zk_upd (L := 0) (H := 6) rfl rfl I_4 ⟨by omega, by omega⟩
    have F_10 : zk_fr fr_Past_goBack g g4 := by rw [e_8]; exact zk_fu F_5 (Or.inr (Or.inr (Or.inr (Or.inr (Or.inr (Or.inr (Or.inr (Or.inr (Or.inr (Or.inr (Or.inr (Or.inr (Or.inr (Or.inr (Or.inr (Or.inr (Or.inr (Or.inr (Or.inr (Or.inl ⟨rfl, rfl⟩))))))))))))))))))))
    have m_13 : 0 ≤ (g4 91 2) ∧ (g4 91 2) ≤ 5 := I_9.1 91 2
    have m_14 : g4 91 2 = g3 91 2 := by rw [e_8]; exact zi_u_ni (by decide)
    have m_15 : 0 ≤ (g3 91 2) ∧ (g3 91 2) ≤ 5 := I_4.1 91 2
    have m_16 : g3 91 2 = Int.tmod (((g 91 2) + 6) - 1) 6 := by rw [e_3]; exact zi_u_eq
    refine ⟨⟨by omega, by omega⟩, ?_⟩
    refine k_World_copyFrom rfl (zs_ring ⟨by omega, by omega⟩).2 I_9 (fun g7 I_18 F_19 b_17 => ?_)
    have F_20 : zk_fr fr_Past_goBack g g7 := zk_ft F_10 F_19 (fun a i => (fun h => Or.elim h (fun h => (Or.inr (Or.inr (Or.inr (Or.inr (Or.inl h)))))) (fun h => Or.elim h (fun h => (Or.inr (Or.inr (Or.inl h)))) (fun h => Or.elim h (fun h => (Or.inr (Or.inr (Or.inr (Or.inl h))))) (fun h => Or.elim h (fun h => (Or.inr (Or.inr (Or.inr (Or.inr (Or.inr (Or.inl h))))))) (fun h => Or.elim h (fun h => (Or.inr (Or.inr (Or.inr (Or.inr (Or.inr (Or.inr (Or.inl h)))))))) (fun h => Or.elim h (fun h => (Or.inr (Or.inr (Or.inr (Or.inr (Or.inr (Or.inr (Or.inr (Or.inl h))))))))) (fun h => Or.elim h (fun h => (Or.inr (Or.inr (Or.inr (Or.inr (Or.inr (Or.inr (Or.inr (Or.inr (Or.inl h)))))))))) (fun h => Or.elim h (fun h => (Or.inr (Or.inr (Or.inr (Or.inr (Or.inr (Or.inr (Or.inr (Or.inr (Or.inr (Or.inl h))))))))))) (fun h => Or.elim h (fun h => (Or.inr (Or.inr (Or.inr (Or.inr (Or.inr (Or.inr (Or.inr (Or.inr (Or.inr (Or.inr (Or.inl h)))))))))))) (fun h => Or.elim h (fun h => (Or.inl h)) (fun h => Or.elim h (fun h => (Or.inr (Or.inl h))) (fun h => Or.elim h (fun h => (Or.inr (Or.inr (Or.inr (Or.inr (Or.inr (Or.inr (Or.inr (Or.inr (Or.inr (Or.inr (Or.inr (Or.inl h))))))))))))) (fun h => Or.elim h (fun h => (Or.inr (Or.inr (Or.inr (Or.inr (Or.inr (Or.inr (Or.inr (Or.inr (Or.inr (Or.inr (Or.inr (Or.inr (Or.inl h)))))))))))))) (fun h => Or.elim h (fun h => (Or.inr (Or.inr (Or.inr (Or.inr (Or.inr (Or.inr (Or.inr (Or.inr (Or.inr (Or.inr (Or.inr (Or.inr (Or.inr (Or.inl h))))))))))))))) (fun h => Or.elim h (fun h => (Or.inr (Or.inr (Or.inr (Or.inr (Or.inr (Or.inr (Or.inr (Or.inr (Or.inr (Or.inr (Or.inr (Or.inr (Or.inr (Or.inr (Or.inl h)))))))))))))))) (fun h => Or.elim h (fun h => (Or.inr (Or.inr (Or.inr (Or.inr (Or.inr (Or.inr (Or.inr (Or.inr (Or.inr (Or.inr (Or.inr (Or.inr (Or.inr (Or.inr (Or.inr (Or.inl h))))))))))))))))) (fun h => Or.elim h (fun h => (Or.inr (Or.inr (Or.inr (Or.inr (Or.inr (Or.inr (Or.inr (Or.inr (Or.inr (Or.inr (Or.inr (Or.inr (Or.inr (Or.inr (Or.inr (Or.inr (Or.inl h)))))))))))))))))) (fun h => Or.elim h (fun h => (Or.inr (Or.inr (Or.inr (Or.inr (Or.inr (Or.inr (Or.inr (Or.inr (Or.inr (Or.inr (Or.inr (Or.inr (Or.inr (Or.inr (Or.inr (Or.inr (Or.inr (Or.inl h))))))))))))))))))) (fun h => (Or.inr (Or.inr (Or.inr (Or.inr (Or.inr (Or.inr (Or.inr (Or.inr (Or.inr (Or.inr (Or.inr (Or.inr (Or.inr (Or.inr (Or.inr (Or.inr (Or.inr (Or.inr (Or.inl h)))))))))))))))))))))))))))))))))))))))
    exact hQ _ _ I_18 F_20 ⟨by omega, by omega⟩ (by intro hz; first | exact ⟨hz, zQk_refl _⟩ | exact zP_back I (by assumption) (by assumption) (by assumption) (by assumption) (by assumption) hz) (by first | exact zUk_n (by assumption) | exact zUk_y I (by assumption) (by assumption) (by assumption) (by assumption) (by assumption))
  · exact hQ _ _ I (zk_f0 _) ⟨by omega, by omega⟩ (by intro hz; first | exact ⟨hz, zQk_refl _⟩ | exact zP_back I (by assumption) (by assumption) (by assumption) (by assumption) (by assumption) hz) (by first | exact zUk_n (by assumption) | exact zUk_y I (by assumption) (by assumption) (by assumption) (by assumption) (by assumption))
-- SpoutNews.undo()Z
set_option maxRecDepth 100000 in
set_option maxHeartbeats 4000000 in
theorem k_S_undo {g : zi_M} {Q : Int → zi_M → Prop} (I : zk_I g) (hQ : ∀ (v : Int) (g' : zi_M), zk_I g' → zk_fr fr_S_undo g g' → (0 ≤ v ∧ v ≤ 1) → (zP g → zP g' ∧ zQk g g') → (zUk v g g') → Q v g') : w_S_undo g Q := by
  unfold w_S_undo
  refine k_Past_goBack I (fun v1 g2 I_4 F_5 b_1 b_2 b_3 => ?_)
  have F_6 : zk_fr fr_S_undo g g2 := zk_ft (zk_f0 _) F_5 (fun a i => (fun h => Or.elim h (fun h => (Or.inl h)) (fun h => Or.elim h (fun h => (Or.inr (Or.inl h))) (fun h => Or.elim h (fun h => (Or.inr (Or.inr (Or.inl h)))) (fun h => Or.elim h (fun h => (Or.inr (Or.inr (Or.inr (Or.inl h))))) (fun h => Or.elim h (fun h => (Or.inr (Or.inr (Or.inr (Or.inr (Or.inl h)))))) (fun h => Or.elim h (fun h => (Or.inr (Or.inr (Or.inr (Or.inr (Or.inr (Or.inl h))))))) (fun h => Or.elim h (fun h => (Or.inr (Or.inr (Or.inr (Or.inr (Or.inr (Or.inr (Or.inl h)))))))) (fun h => Or.elim h (fun h => (Or.inr (Or.inr (Or.inr (Or.inr (Or.inr (Or.inr (Or.inr (Or.inl h))))))))) (fun h => Or.elim h (fun h => (Or.inr (Or.inr (Or.inr (Or.inr (Or.inr (Or.inr (Or.inr (Or.inr (Or.inl h)))))))))) (fun h => Or.elim h (fun h => (Or.inr (Or.inr (Or.inr (Or.inr (Or.inr (Or.inr (Or.inr (Or.inr (Or.inr (Or.inl h))))))))))) (fun h => Or.elim h (fun h => (Or.inr (Or.inr (Or.inr (Or.inr (Or.inr (Or.inr (Or.inr (Or.inr (Or.inr (Or.inr (Or.inl h)))))))))))) (fun h => Or.elim h (fun h => (Or.inr (Or.inr (Or.inr (Or.inr (Or.inr (Or.inr (Or.inr (Or.inr (Or.inr (Or.inr (Or.inr (Or.inl h))))))))))))) (fun h => Or.elim h (fun h => (Or.inr (Or.inr (Or.inr (Or.inr (Or.inr (Or.inr (Or.inr (Or.inr (Or.inr (Or.inr (Or.inr (Or.inr (Or.inl h)))))))))))))) (fun h => Or.elim h (fun h => (Or.inr (Or.inr (Or.inr (Or.inr (Or.inr (Or.inr (Or.inr (Or.inr (Or.inr (Or.inr (Or.inr (Or.inr (Or.inr (Or.inl h))))))))))))))) (fun h => Or.elim h (fun h => (Or.inr (Or.inr (Or.inr (Or.inr (Or.inr (Or.inr (Or.inr (Or.inr (Or.inr (Or.inr (Or.inr (Or.inr (Or.inr (Or.inr (Or.inl h)))))))))))))))) (fun h => Or.elim h (fun h => (Or.inr (Or.inr (Or.inr (Or.inr (Or.inr (Or.inr (Or.inr (Or.inr (Or.inr (Or.inr (Or.inr (Or.inr (Or.inr (Or.inr (Or.inr (Or.inl h))))))))))))))))) (fun h => Or.elim h (fun h => (Or.inr (Or.inr (Or.inr (Or.inr (Or.inr (Or.inr (Or.inr (Or.inr (Or.inr (Or.inr (Or.inr (Or.inr (Or.inr (Or.inr (Or.inr (Or.inr (Or.inl h)))))))))))))))))) (fun h => Or.elim h (fun h => (Or.inr (Or.inr (Or.inr (Or.inr (Or.inr (Or.inr (Or.inr (Or.inr (Or.inr (Or.inr (Or.inr (Or.inr (Or.inr (Or.inr (Or.inr (Or.inr (Or.inr (Or.inl h))))))))))))))))))) (fun h => Or.elim h (fun h => (Or.inr (Or.inr (Or.inr (Or.inr (Or.inr (Or.inr (Or.inr (Or.inr (Or.inr (Or.inr (Or.inr (Or.inr (Or.inr (Or.inr (Or.inr (Or.inr (Or.inr (Or.inr (Or.inl h)))))))))))))))))))) (fun h => Or.elim h (fun h => (Or.inr (Or.inr (Or.inr (Or.inr (Or.inr (Or.inr (Or.inr (Or.inr (Or.inr (Or.inr (Or.inr (Or.inr (Or.inr (Or.inr (Or.inr (Or.inr (Or.inr (Or.inr (Or.inr (Or.inl h))))))))))))))))))))) (fun h => (Or.inr (Or.inr (Or.inr (Or.inr (Or.inr (Or.inr (Or.inr (Or.inr (Or.inr (Or.inr (Or.inr (Or.inr (Or.inr (Or.inr (Or.inr (Or.inr (Or.inr (Or.inr (Or.inr (Or.inr h))))))))))))))))))))))))))))))))))))))))))
  exact hQ _ _ I_4 F_6 ⟨by omega, by omega⟩ (by assumption) (by assumption)
-- SpoutNewsModel.undo()Z
set_option maxRecDepth 100000 in
set_option maxHeartbeats 4000000 in
theorem k_M_undo_l26 {K60 : zi_M → Prop} {Q : Int → zi_M → Prop} {g0 : zi_M} (hK60 : ∀ (g : zi_M), zk_I g → zk_fr fr_M_undo g0 g → (g 214 3 = g0 214 3 - 1) → (zUi 264 g0 g) → K60 g) (hQ : ∀ (v : Int) (g' : zi_M), zk_I g' → zk_fr fr_M_undo g0 g' → (0 ≤ v ∧ v ≤ 1) → (zUm v g0 g') → Q v g') : ∀ (n : Nat) {l1 : Int} {g : zi_M}, zk_I g → zk_fr fr_M_undo g0 g → (0 ≤ l1 ∧ l1 ≤ 264) → (g 214 3 ≤ 5) → (g 214 3 = g0 214 3 - 1) → (zUi l1 g0 g) → 264 - l1 < (n : Int) → w_M_undo_l26 K60 Q n l1 g
  | 0, l1, g, I, F, b0, b1, b2, b3, hm => by exfalso; omega
  | n + 1, l1, g, I, F, b0, b1, b2, b3, hm => by
    unfold w_M_undo_l26
    refine ⟨⟨by omega, by omega⟩, ?_⟩
    refine ⟨fun c8 => ?_, fun c8 => ?_⟩
    · have m_10 : 0 ≤ (g 214 3) ∧ (g 214 3) ≤ 6 := I.1 214 3
      exact hK60 _ I F (by assumption) (by exact zUi_x b3 (by omega))
    · have m_11 : 0 ≤ (g 214 3) ∧ (g 214 3) ≤ 6 := I.1 214 3
      refine ⟨⟨by omega, by omega⟩, ?_⟩
      refine ⟨⟨by omega, by omega⟩, ?_⟩
      have m_15 := zk_rng I 216 ((264 * (g 214 3)) + l1)
      intro g7 e_12
      have I_13 : zk_I g7 := by rw [e_12]; exact zk_row3 I (by omega) ⟨by omega, by omega⟩
      have F_14 : zk_fr fr_M_undo g0 g7 := by rw [e_12]; exact zk_fu F (Or.inl rfl)
      have m_16 : 0 ≤ (g7 214 3) ∧ (g7 214 3) ≤ 6 := I_13.1 214 3
      have m_17 : g7 214 3 = g 214 3 := by rw [e_12]; exact zi_u_ne (by decide)
      exact k_M_undo_l26 hK60 hQ n I_13 F_14 ⟨by omega, by omega⟩ (by omega) (by omega) (by first | exact zUi_s b3 F (by assumption) (by assumption) | exact zUi_0) (by omega)
set_option maxRecDepth 100000 in
set_option maxHeartbeats 4000000 in
theorem k_M_undo {g : zi_M} {Q : Int → zi_M → Prop} (I : zk_I g) (hQ : ∀ (v : Int) (g' : zi_M), zk_I g' → zk_fr fr_M_undo g g' → (0 ≤ v ∧ v ≤ 1) → (zUm v g g') → Q v g') : w_M_undo g Q := by
  unfold w_M_undo
  intro g1 e_1
  have I_2 : zk_I g1 := by rw [e_1]; exact zk_upd (L := (-2147483648)) (H := 2147483647) rfl rfl I ⟨by omega, by omega⟩
  have F_3 : zk_fr fr_M_undo g g1 := by rw [e_1]; exact zk_fu (zk_f0 _) (Or.inr (Or.inl ⟨rfl, rfl⟩))
  have m_4 : 0 ≤ (g1 214 3) ∧ (g1 214 3) ≤ 6 := I_2.1 214 3
  have m_5 : g1 214 3 = g 214 3 := by rw [e_1]; exact zi_u_ni (by decide)
  have m_6 : 0 ≤ (g 214 3) ∧ (g 214 3) ≤ 6 := I.1 214 3
  refine ⟨⟨by omega, by omega⟩, ?_⟩
  refine ⟨fun c11 => ?_, fun c11 => ?_⟩
  · intro g3 e_7
    have I_8 : zk_I g3 := by rw [e_7]; exact zk_upd (L := 0) (H := 6) rfl rfl I_2 ⟨by omega, by omega⟩
    have F_9 : zk_fr fr_M_undo g g3 := by rw [e_7]; exact zk_fu F_3 (Or.inr (Or.inr ⟨rfl, rfl⟩))
    have m_22 : 0 ≤ (g3 214 3) ∧ (g3 214 3) ≤ 6 := I_8.1 214 3
    have m_23 : g3 214 3 = (g1 214 3) - 1 := by rw [e_7]; exact zi_u_eq
    refine ⟨((264 - 0 : Int).toNat + 1), k_M_undo_l26 (fun g9 I_18 F_19 b_20 b_21 => ?_) hQ ((264 - 0 : Int).toNat + 1) I_8 F_9 ⟨by omega, by omega⟩ (by omega) (by omega) (by first | exact zUi_s b3 F (by assumption) (by assumption) | exact zUi_0) (by omega)⟩
    exact hQ _ _ I_18 F_19 ⟨by omega, by omega⟩ (by first | exact zUm_y (by omega) (by assumption) (by assumption) | exact zUm_n (by omega) (by assumption))
  · exact hQ _ _ I_2 F_3 ⟨by omega, by omega⟩ (by first | exact zUm_y (by omega) (by assumption) (by assumption) | exact zUm_n (by omega) (by assumption))
