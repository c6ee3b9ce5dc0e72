-- by program (wip/gen/mkz.py)
-- SpoutNewsModel.isFirstTold(I)Z
set_option maxRecDepth 100000 in
set_option maxHeartbeats 4000000 in
theorem k_M_isFirstTold_l2 {g : zi_M} (I : zk_I g) {l1 : Int} {K22 : zi_M → Prop} {K30 : zi_M → Prop} {Q : Int → zi_M → Prop} (q1 : 0 ≤ l1 ∧ l1 ≤ 11) (hK22 : K22 g) (hK30 : K30 g) (hQ : ∀ v : Int, (0 ≤ v ∧ v ≤ 1) → Q v g) : ∀ (n : Nat) {l2 : Int}, (0 ≤ l2 ∧ l2 ≤ 11) → 11 - l2 < (n : Int) → w_M_isFirstTold_l2 l1 K22 K30 Q n l2 g
  | 0, l2, b0, hm => by exfalso; omega
  | n + 1, l2, b0, hm => by
    unfold w_M_isFirstTold_l2
    refine ⟨⟨by omega, by omega⟩, ⟨by omega, by omega⟩, ?_⟩
    refine ⟨fun c8 => ?_, fun c8 => ?_⟩
    · exact hK30
    · refine ⟨⟨by omega, by omega⟩, ?_⟩
      refine ⟨⟨by omega, by omega⟩, ?_⟩
      have m_1 : 0 ≤ (g 240 l2) ∧ (g 240 l2) ≤ 79 := I.1 240 l2
      have m_2 : 0 ≤ (g 240 l1) ∧ (g 240 l1) ≤ 79 := I.1 240 l1
      refine ⟨⟨by omega, by omega⟩, ⟨by omega, by omega⟩, ?_⟩
      refine ⟨fun c7 => ?_, fun c7 => ?_⟩
      · exact k_M_isFirstTold_l2 I q1 hK22 hK30 hQ n ⟨by omega, by omega⟩ (by omega)
      · exact hK22
set_option maxRecDepth 100000 in
set_option maxHeartbeats 4000000 in
theorem k_M_isFirstTold {l1 : Int} {g : zi_M} {Q : Int → zi_M → Prop} (I : zk_I g) (p1 : 0 ≤ l1 ∧ l1 ≤ 11) (hQ : ∀ v : Int, (0 ≤ v ∧ v ≤ 1) → Q v g) : w_M_isFirstTold l1 g Q := by
  unfold w_M_isFirstTold
  refine ⟨((11 - 0 : Int).toNat + 1), k_M_isFirstTold_l2 (l1 := l1) I ⟨by omega, by omega⟩ (?_) (?_) hQ ((11 - 0 : Int).toNat + 1) ⟨by omega, by omega⟩ (by omega)⟩
  · exact hQ _ ⟨by omega, by omega⟩
  · exact hQ _ ⟨by omega, by omega⟩
-- SpoutNewsModel.greater(II)I
set_option maxRecDepth 100000 in
set_option maxHeartbeats 4000000 in
theorem k_M_greater {l1 : Int} {l2 : Int} {g : zi_M} {Q : Int → zi_M → Prop} (I : zk_I g) (p1 : (-2147483648) ≤ l1 ∧ l1 ≤ 2147483647) (p2 : (-2147483648) ≤ l2 ∧ l2 ≤ 2147483647) (hQ : ∀ v : Int, (l1 ≤ l2 → v = l2) → (l2 < l1 → v = l1) → Q v g) : w_M_greater l1 l2 g Q := by
  unfold w_M_greater
  refine ⟨⟨by omega, by omega⟩, ⟨by omega, by omega⟩, ?_⟩
  refine ⟨fun c3 => ?_, fun c3 => ?_⟩
  · exact hQ _ (by intros; omega) (by intros; omega)
  · exact hQ _ (by intros; omega) (by intros; omega)
-- SpoutNewsModel.askedBest()I
set_option maxRecDepth 100000 in
set_option maxHeartbeats 4000000 in
theorem k_M_askedBest_l32 {l3 : Int} {K79 : Int → zi_M → Prop} {Q : Int → zi_M → Prop} {g0 : zi_M} (q3 : 0 ≤ l3 ∧ l3 ≤ 7) (hK79 : ∀ (k4 : Int) (g : zi_M), zk_I g → zk_fr fr_M_askedBest g0 g → ((-2147483648) ≤ k4 ∧ k4 ≤ 2147483647) → K79 k4 g) (hQ : ∀ (v : Int) (g' : zi_M), zk_I g' → zk_fr fr_M_askedBest g0 g' → ((-1) ≤ v ∧ v ≤ 7) → Q v g') : ∀ (n : Nat) {l4 : Int} {l5 : Int} {g : zi_M}, zk_I g → zk_fr fr_M_askedBest g0 g → ((-2147483648) ≤ l4 ∧ l4 ≤ 2147483647) → (0 ≤ l5 ∧ l5 ≤ 10) → 10 - l5 < (n : Int) → w_M_askedBest_l32 l3 K79 Q n l4 l5 g
  | 0, l4, l5, g, I, F, b0, b1, hm => by exfalso; omega
  | n + 1, l4, l5, g, I, F, b0, b1, hm => by
    unfold w_M_askedBest_l32
    refine ⟨⟨by omega, by omega⟩, ?_⟩
    refine ⟨fun c16 => ?_, fun c16 => ?_⟩
    · exact hK79 _ _ I F ⟨by omega, by omega⟩
    · refine ⟨⟨by omega, by omega⟩, ?_⟩
      have m_2 : 0 ≤ (g 239 l3) ∧ (g 239 l3) ≤ 1023 := I.1 239 l3
      have m_5 := zi_r_shr ((g 239 l3)) (l5)
      try have m_6 := (zi_shr_f ((g 239 l3)) (l5)).2 ⟨by omega, by omega⟩
      have m_7 := zi_r_and (zi_shr (g 239 l3) l5) 1
      try have m_8 := (zi_and_f (zi_shr (g 239 l3) l5) 1).2.1 ⟨by omega, by omega⟩
      try have m_9 := (zi_and_f (zi_shr (g 239 l3) l5) 1).2.2 ⟨by omega, by omega⟩
      refine k_M_has I ⟨by omega, by omega⟩ ⟨by omega, by omega⟩ (fun v6 b_3 b_4 => ?_)
      refine ⟨fun c15 => ?_, fun c15 => ?_⟩
      · exact k_M_askedBest_l32 q3 hK79 hQ n I F ⟨by omega, by omega⟩ ⟨by omega, by omega⟩ (by omega)
      · refine k_M_waysWith I ⟨by omega, by omega⟩ (fun v9 g10 I_11 F_12 b_10 => ?_)
        have F_13 : zk_fr fr_M_askedBest g0 g10 := zk_ft F F_12 (fun a i => (fun h => h))
        refine k_M_greater I_11 ⟨by omega, by omega⟩ ⟨by omega, by omega⟩ (fun v12 b_14 b_15 => ?_)
        exact k_M_askedBest_l32 q3 hK79 hQ n I_11 F_13 ⟨by omega, by omega⟩ ⟨by omega, by omega⟩ (by omega)
set_option maxRecDepth 100000 in
set_option maxHeartbeats 4000000 in
theorem k_M_askedBest_l8 {K105 : Int → zi_M → Prop} {Q : Int → zi_M → Prop} {g0 : zi_M} (hK105 : ∀ (k1 : Int) (g : zi_M), zk_I g → zk_fr fr_M_askedBest g0 g → ((-1) ≤ k1 ∧ k1 ≤ 7) → K105 k1 g) (hQ : ∀ (v : Int) (g' : zi_M), zk_I g' → zk_fr fr_M_askedBest g0 g' → ((-1) ≤ v ∧ v ≤ 7) → Q v g') : ∀ (n : Nat) {l1 : Int} {l2 : Int} {l3 : Int} {g : zi_M}, zk_I g → zk_fr fr_M_askedBest g0 g → ((-1) ≤ l1 ∧ l1 ≤ 7) → ((-2147483648) ≤ l2 ∧ l2 ≤ 2147483647) → (0 ≤ l3 ∧ l3 ≤ 8) → 8 - l3 < (n : Int) → w_M_askedBest_l8 K105 Q n l1 l2 l3 g
  | 0, l1, l2, l3, g, I, F, b0, b1, b2, hm => by exfalso; omega
  | n + 1, l1, l2, l3, g, I, F, b0, b1, b2, hm => by
    unfold w_M_askedBest_l8
    refine ⟨⟨by omega, by omega⟩, ?_⟩
    refine ⟨fun c30 => ?_, fun c30 => ?_⟩
    · exact hK105 _ _ I F ⟨by omega, by omega⟩
    · refine ⟨⟨by omega, by omega⟩, ?_⟩
      have m_1 : 0 ≤ (g 239 l3) ∧ (g 239 l3) ≤ 1023 := I.1 239 l3
      refine ⟨⟨by omega, by omega⟩, ?_⟩
      refine ⟨fun c29 => ?_, fun c29 => ?_⟩
      · refine ⟨((10 - 0 : Int).toNat + 1), k_M_askedBest_l32 (l3 := l3) ⟨by omega, by omega⟩ (fun k17 g18 I_16 F_17 b_18 => ?_) hQ ((10 - 0 : Int).toNat + 1) I F ⟨by omega, by omega⟩ ⟨by omega, by omega⟩ (by omega)⟩
        refine ⟨⟨by omega, by omega⟩, ⟨by omega, by omega⟩, ?_⟩
        refine ⟨fun c27 => ?_, fun c27 => ?_⟩
        · refine k_M_lesser I_16 ⟨by omega, by omega⟩ ⟨by omega, by omega⟩ (fun v21 b_19 b_20 => ?_)
          exact k_M_askedBest_l8 hK105 hQ n I_16 F_17 ⟨by omega, by omega⟩ ⟨by omega, by omega⟩ ⟨by omega, by omega⟩ (by omega)
        · refine k_M_lesser I_16 ⟨by omega, by omega⟩ ⟨by omega, by omega⟩ (fun v24 b_21 b_22 => ?_)
          exact k_M_askedBest_l8 hK105 hQ n I_16 F_17 ⟨by omega, by omega⟩ ⟨by omega, by omega⟩ ⟨by omega, by omega⟩ (by omega)
      · exact k_M_askedBest_l8 hK105 hQ n I F ⟨by omega, by omega⟩ ⟨by omega, by omega⟩ ⟨by omega, by omega⟩ (by omega)
set_option maxRecDepth 100000 in
set_option maxHeartbeats 4000000 in
theorem k_M_askedBest {g : zi_M} {Q : Int → zi_M → Prop} (I : zk_I g) (hQ : ∀ (v : Int) (g' : zi_M), zk_I g' → zk_fr fr_M_askedBest g g' → ((-1) ≤ v ∧ v ≤ 7) → Q v g') : w_M_askedBest g Q := by
  unfold w_M_askedBest
  refine ⟨((8 - 0 : Int).toNat + 1), k_M_askedBest_l8 (fun k31 g32 I_23 F_24 b_25 => ?_) hQ ((8 - 0 : Int).toNat + 1) I (zk_f0 _) ⟨by omega, by omega⟩ ⟨by omega, by omega⟩ ⟨by omega, by omega⟩ (by omega)⟩
  exact hQ _ _ I_23 F_24 ⟨by omega, by omega⟩
-- SpoutNewsModel.ways(I)I
set_option maxRecDepth 100000 in
set_option maxHeartbeats 4000000 in
theorem k_M_ways_l44 {l2 : Int} {K91 : Int → zi_M → Prop} {Q : Int → zi_M → Prop} {g0 : zi_M} (q2 : (-2147483648) ≤ l2 ∧ l2 ≤ 2147483647) (hK91 : ∀ (k3 : Int) (g : zi_M), zk_I g → zk_fr fr_M_ways g0 g → (0 ≤ k3) → K91 k3 g) (hQ : ∀ (v : Int) (g' : zi_M), zk_I g' → zk_fr fr_M_ways g0 g' → ((-2147483648) ≤ v) → Q v g') : ∀ (n : Nat) {l3 : Int} {l4 : Int} {g : zi_M}, zk_I g → zk_fr fr_M_ways g0 g → (0 ≤ l3) → (0 ≤ l4 ∧ l4 ≤ 12) → 12 - l4 < (n : Int) → w_M_ways_l44 l2 K91 Q n l3 l4 g
  | 0, l3, l4, g, I, F, b0, b1, hm => by exfalso; omega
  | n + 1, l3, l4, g, I, F, b0, b1, hm => by
    unfold w_M_ways_l44
    have m_11 : 0 ≤ (g 214 46) ∧ (g 214 46) ≤ 12 := I.1 214 46
    refine ⟨⟨by omega, by omega⟩, ⟨by omega, by omega⟩, ?_⟩
    refine ⟨fun c23 => ?_, fun c23 => ?_⟩
    · exact hK91 _ _ I F (by omega)
    · refine ⟨⟨by omega, by omega⟩, ?_⟩
      refine ⟨fun c22 => ?_, fun c22 => ?_⟩
      · exact hK91 _ _ I F (by omega)
      · refine k_M_isFirstTold I ⟨by omega, by omega⟩ (fun v12 b_12 => ?_)
        refine ⟨fun c21 => ?_, fun c21 => ?_⟩
        · exact k_M_ways_l44 q2 hK91 hQ n I F (by omega) ⟨by omega, by omega⟩ (by omega)
        · refine ⟨⟨by omega, by omega⟩, ?_⟩
          have m_13 : 0 ≤ (g 240 l4) ∧ (g 240 l4) ≤ 79 := I.1 240 l4
          refine k_M_waysWith I ⟨by omega, by omega⟩ (fun v16 g17 I_15 F_16 b_14 => ?_)
          have F_17 : zk_fr fr_M_ways g0 g17 := zk_ft F F_16 (fun a i => (fun h => (Or.inl h)))
          refine ⟨⟨by omega, by omega⟩, ?_⟩
          refine ⟨fun c20 => ?_, fun c20 => ?_⟩
          · exact k_M_ways_l44 q2 hK91 hQ n I_15 F_17 (by omega) ⟨by omega, by omega⟩ (by omega)
          · exact k_M_ways_l44 q2 hK91 hQ n I_15 F_17 (by omega) ⟨by omega, by omega⟩ (by omega)
set_option maxRecDepth 100000 in
set_option maxHeartbeats 4000000 in
theorem k_M_ways {l1 : Int} {g : zi_M} {Q : Int → zi_M → Prop} (I : zk_I g) (p1 : (-2147483648) ≤ l1 ∧ l1 ≤ 2147483647) (hQ : ∀ (v : Int) (g' : zi_M), zk_I g' → zk_fr fr_M_ways g g' → ((-2147483648) ≤ v) → Q v g') : w_M_ways l1 g Q := by
  unfold w_M_ways
  intro g1 e_1
  have I_2 : zk_I g1 := by rw [e_1]; exact zk_upd (L := (-2147483648)) (H := 2147483647) rfl rfl I ⟨by omega, by omega⟩
  have F_3 : zk_fr fr_M_ways g g1 := by rw [e_1]; exact zk_fu (zk_f0 _) (Or.inr ⟨rfl, rfl⟩)
  refine k_M_isIn I_2 ⟨by omega, by omega⟩ ⟨by omega, by omega⟩ ⟨by omega, by omega⟩ (fun v2 b_4 b_5 b_6 => ?_)
  refine ⟨fun c32 => ?_, fun c32 => ?_⟩
  · refine ⟨⟨by omega, by omega⟩, ?_⟩
    refine ⟨fun c31 => ?_, fun c31 => ?_⟩
    · refine k_M_waysWith I_2 ⟨by omega, by omega⟩ (fun v6 g7 I_8 F_9 b_7 => ?_)
      have F_10 : zk_fr fr_M_ways g g7 := zk_ft F_3 F_9 (fun a i => (fun h => (Or.inl h)))
      refine ⟨fun c27 => ?_, fun c27 => ?_⟩
      · refine ⟨((12 - 0 : Int).toNat + 1), k_M_ways_l44 (l2 := v6) ⟨by omega, by omega⟩ (fun k24 g25 I_18 F_19 b_20 => ?_) hQ ((12 - 0 : Int).toNat + 1) I_8 F_10 (by omega) ⟨by omega, by omega⟩ (by omega)⟩
        exact hQ _ _ I_18 F_19 (by omega)
      · exact hQ _ _ I_8 F_10 (by omega)
    · refine k_M_askedBest I_2 (fun v28 g29 I_22 F_23 b_21 => ?_)
      have F_24 : zk_fr fr_M_ways g g29 := zk_ft F_3 F_23 (fun a i => (fun h => (Or.inl h)))
      exact hQ _ _ I_22 F_24 (by omega)
  · exact hQ _ _ I_2 F_3 (by omega)
-- SpoutNews.quarrel(II)I
set_option maxRecDepth 100000 in
set_option maxHeartbeats 4000000 in
theorem k_S_quarrel {l1 : Int} {l2 : Int} {g : zi_M} {Q : Int → zi_M → Prop} (I : zk_I g) (p1 : (-2147483648) ≤ l1 ∧ l1 ≤ 2147483647) (p2 : (-2147483648) ≤ l2 ∧ l2 ≤ 2147483647) (hQ : ∀ (v : Int) (g' : zi_M), zk_I g' → zk_fr fr_S_quarrel g g' → ((-1) ≤ v ∧ v ≤ 14) → (l1 = -1 → v = 0 ∧ g' 36 5 = 0) → (¬ l1 = -1 → 0 ≤ l1 ∧ l1 ≤ 9 ∧ 0 ≤ l2 ∧ l2 ≤ 9 ∧ ¬ l1 = l2 ∧ g 36 5 < 14 → v = g 36 5 + 1 ∧ g' 36 5 = g 36 5 + 1) → (¬ l1 = -1 → ¬ (0 ≤ l1 ∧ l1 ≤ 9 ∧ 0 ≤ l2 ∧ l2 ≤ 9 ∧ ¬ l1 = l2 ∧ g 36 5 < 14) → v = -1 ∧ g' 36 5 = g 36 5) → (∀ k : Int, 0 ≤ k ∧ k < 14 → (¬ (¬ l1 = -1 ∧ 0 ≤ l1 ∧ l1 ≤ 9 ∧ 0 ≤ l2 ∧ l2 ≤ 9 ∧ ¬ l1 = l2 ∧ g 36 5 < 14) → g' 39 k = g 39 k) ∧ ((¬ l1 = -1 ∧ 0 ≤ l1 ∧ l1 ≤ 9 ∧ 0 ≤ l2 ∧ l2 ≤ 9 ∧ ¬ l1 = l2 ∧ g 36 5 < 14) → (k = g 36 5 → g' 39 k = l1) ∧ (¬ k = g 36 5 → g' 39 k = g 39 k))) → (∀ k : Int, 0 ≤ k ∧ k < 14 → (¬ (¬ l1 = -1 ∧ 0 ≤ l1 ∧ l1 ≤ 9 ∧ 0 ≤ l2 ∧ l2 ≤ 9 ∧ ¬ l1 = l2 ∧ g 36 5 < 14) → g' 40 k = g 40 k) ∧ ((¬ l1 = -1 ∧ 0 ≤ l1 ∧ l1 ≤ 9 ∧ 0 ≤ l2 ∧ l2 ≤ 9 ∧ ¬ l1 = l2 ∧ g 36 5 < 14) → (k = g 36 5 → g' 40 k = l2) ∧ (¬ k = g 36 5 → g' 40 k = g 40 k))) → Q v g') : w_S_quarrel l1 l2 g Q := by
  unfold w_S_quarrel
  refine ⟨⟨by omega, by omega⟩, ?_⟩
  refine ⟨fun c16 => ?_, fun c16 => ?_⟩
  · refine ⟨fun c14 => ?_, fun c14 => ?_⟩
    · have m_1 : 0 ≤ (g 36 5) ∧ (g 36 5) ≤ 14 := I.1 36 5
      have z_3 : ∀ k : Int, 0 ≤ k ∧ k < 14 → (¬ (¬ l1 = -1 ∧ 0 ≤ l1 ∧ l1 ≤ 9 ∧ 0 ≤ l2 ∧ l2 ≤ 9 ∧ ¬ l1 = l2 ∧ g 36 5 < 14) → g 39 k = g 39 k) ∧ ((¬ l1 = -1 ∧ 0 ≤ l1 ∧ l1 ≤ 9 ∧ 0 ≤ l2 ∧ l2 ≤ 9 ∧ ¬ l1 = l2 ∧ g 36 5 < 14) → (k = g 36 5 → g 39 k = l1) ∧ (¬ k = g 36 5 → g 39 k = g 39 k)) := by
        intro k hk
        have m_2 : 0 ≤ (g 39 k) ∧ (g 39 k) ≤ 9 := I.1 39 k
        omega
      have z_5 : ∀ k : Int, 0 ≤ k ∧ k < 14 → (¬ (¬ l1 = -1 ∧ 0 ≤ l1 ∧ l1 ≤ 9 ∧ 0 ≤ l2 ∧ l2 ≤ 9 ∧ ¬ l1 = l2 ∧ g 36 5 < 14) → g 40 k = g 40 k) ∧ ((¬ l1 = -1 ∧ 0 ≤ l1 ∧ l1 ≤ 9 ∧ 0 ≤ l2 ∧ l2 ≤ 9 ∧ ¬ l1 = l2 ∧ g 36 5 < 14) → (k = g 36 5 → g 40 k = l2) ∧ (¬ k = g 36 5 → g 40 k = g 40 k)) := by
        intro k hk
        have m_4 : 0 ≤ (g 40 k) ∧ (g 40 k) ≤ 9 := I.1 40 k
        omega
      exact hQ _ _ I (zk_f0 _) ⟨by omega, by omega⟩ (by omega) (by omega) (by omega) z_3 z_5
    · refine ⟨fun c13 => ?_, fun c13 => ?_⟩
      · have m_6 : 0 ≤ (g 36 5) ∧ (g 36 5) ≤ 14 := I.1 36 5
        have z_8 : ∀ k : Int, 0 ≤ k ∧ k < 14 → (¬ (¬ l1 = -1 ∧ 0 ≤ l1 ∧ l1 ≤ 9 ∧ 0 ≤ l2 ∧ l2 ≤ 9 ∧ ¬ l1 = l2 ∧ g 36 5 < 14) → g 39 k = g 39 k) ∧ ((¬ l1 = -1 ∧ 0 ≤ l1 ∧ l1 ≤ 9 ∧ 0 ≤ l2 ∧ l2 ≤ 9 ∧ ¬ l1 = l2 ∧ g 36 5 < 14) → (k = g 36 5 → g 39 k = l1) ∧ (¬ k = g 36 5 → g 39 k = g 39 k)) := by
          intro k hk
          have m_7 : 0 ≤ (g 39 k) ∧ (g 39 k) ≤ 9 := I.1 39 k
          omega
        have z_10 : ∀ k : Int, 0 ≤ k ∧ k < 14 → (¬ (¬ l1 = -1 ∧ 0 ≤ l1 ∧ l1 ≤ 9 ∧ 0 ≤ l2 ∧ l2 ≤ 9 ∧ ¬ l1 = l2 ∧ g 36 5 < 14) → g 40 k = g 40 k) ∧ ((¬ l1 = -1 ∧ 0 ≤ l1 ∧ l1 ≤ 9 ∧ 0 ≤ l2 ∧ l2 ≤ 9 ∧ ¬ l1 = l2 ∧ g 36 5 < 14) → (k = g 36 5 → g 40 k = l2) ∧ (¬ k = g 36 5 → g 40 k = g 40 k)) := by
          intro k hk
          have m_9 : 0 ≤ (g 40 k) ∧ (g 40 k) ≤ 9 := I.1 40 k
          omega
        exact hQ _ _ I (zk_f0 _) ⟨by omega, by omega⟩ (by omega) (by omega) (by omega) z_8 z_10
      · refine ⟨⟨by omega, by omega⟩, ?_⟩
        refine ⟨fun c12 => ?_, fun c12 => ?_⟩
        · have m_11 : 0 ≤ (g 36 5) ∧ (g 36 5) ≤ 14 := I.1 36 5
          have z_13 : ∀ k : Int, 0 ≤ k ∧ k < 14 → (¬ (¬ l1 = -1 ∧ 0 ≤ l1 ∧ l1 ≤ 9 ∧ 0 ≤ l2 ∧ l2 ≤ 9 ∧ ¬ l1 = l2 ∧ g 36 5 < 14) → g 39 k = g 39 k) ∧ ((¬ l1 = -1 ∧ 0 ≤ l1 ∧ l1 ≤ 9 ∧ 0 ≤ l2 ∧ l2 ≤ 9 ∧ ¬ l1 = l2 ∧ g 36 5 < 14) → (k = g 36 5 → g 39 k = l1) ∧ (¬ k = g 36 5 → g 39 k = g 39 k)) := by
            intro k hk
            have m_12 : 0 ≤ (g 39 k) ∧ (g 39 k) ≤ 9 := I.1 39 k
            omega
          have z_15 : ∀ k : Int, 0 ≤ k ∧ k < 14 → (¬ (¬ l1 = -1 ∧ 0 ≤ l1 ∧ l1 ≤ 9 ∧ 0 ≤ l2 ∧ l2 ≤ 9 ∧ ¬ l1 = l2 ∧ g 36 5 < 14) → g 40 k = g 40 k) ∧ ((¬ l1 = -1 ∧ 0 ≤ l1 ∧ l1 ≤ 9 ∧ 0 ≤ l2 ∧ l2 ≤ 9 ∧ ¬ l1 = l2 ∧ g 36 5 < 14) → (k = g 36 5 → g 40 k = l2) ∧ (¬ k = g 36 5 → g 40 k = g 40 k)) := by
            intro k hk
            have m_14 : 0 ≤ (g 40 k) ∧ (g 40 k) ≤ 9 := I.1 40 k
            omega
          exact hQ _ _ I (zk_f0 _) ⟨by omega, by omega⟩ (by omega) (by omega) (by omega) z_13 z_15
        · refine ⟨fun c11 => ?_, fun c11 => ?_⟩
          · have m_16 : 0 ≤ (g 36 5) ∧ (g 36 5) ≤ 14 := I.1 36 5
            have z_18 : ∀ k : Int, 0 ≤ k ∧ k < 14 → (¬ (¬ l1 = -1 ∧ 0 ≤ l1 ∧ l1 ≤ 9 ∧ 0 ≤ l2 ∧ l2 ≤ 9 ∧ ¬ l1 = l2 ∧ g 36 5 < 14) → g 39 k = g 39 k) ∧ ((¬ l1 = -1 ∧ 0 ≤ l1 ∧ l1 ≤ 9 ∧ 0 ≤ l2 ∧ l2 ≤ 9 ∧ ¬ l1 = l2 ∧ g 36 5 < 14) → (k = g 36 5 → g 39 k = l1) ∧ (¬ k = g 36 5 → g 39 k = g 39 k)) := by
              intro k hk
              have m_17 : 0 ≤ (g 39 k) ∧ (g 39 k) ≤ 9 := I.1 39 k
              omega
            have z_20 : ∀ k : Int, 0 ≤ k ∧ k < 14 → (¬ (¬ l1 = -1 ∧ 0 ≤ l1 ∧ l1 ≤ 9 ∧ 0 ≤ l2 ∧ l2 ≤ 9 ∧ ¬ l1 = l2 ∧ g 36 5 < 14) → g 40 k = g 40 k) ∧ ((¬ l1 = -1 ∧ 0 ≤ l1 ∧ l1 ≤ 9 ∧ 0 ≤ l2 ∧ l2 ≤ 9 ∧ ¬ l1 = l2 ∧ g 36 5 < 14) → (k = g 36 5 → g 40 k = l2) ∧ (¬ k = g 36 5 → g 40 k = g 40 k)) := by
              intro k hk
              have m_19 : 0 ≤ (g 40 k) ∧ (g 40 k) ≤ 9 := I.1 40 k
              omega
            exact hQ _ _ I (zk_f0 _) ⟨by omega, by omega⟩ (by omega) (by omega) (by omega) z_18 z_20
          · refine ⟨fun c10 => ?_, fun c10 => ?_⟩
            · have m_21 : 0 ≤ (g 36 5) ∧ (g 36 5) ≤ 14 := I.1 36 5
              have z_23 : ∀ k : Int, 0 ≤ k ∧ k < 14 → (¬ (¬ l1 = -1 ∧ 0 ≤ l1 ∧ l1 ≤ 9 ∧ 0 ≤ l2 ∧ l2 ≤ 9 ∧ ¬ l1 = l2 ∧ g 36 5 < 14) → g 39 k = g 39 k) ∧ ((¬ l1 = -1 ∧ 0 ≤ l1 ∧ l1 ≤ 9 ∧ 0 ≤ l2 ∧ l2 ≤ 9 ∧ ¬ l1 = l2 ∧ g 36 5 < 14) → (k = g 36 5 → g 39 k = l1) ∧ (¬ k = g 36 5 → g 39 k = g 39 k)) := by
                intro k hk
                have m_22 : 0 ≤ (g 39 k) ∧ (g 39 k) ≤ 9 := I.1 39 k
                omega
              have z_25 : ∀ k : Int, 0 ≤ k ∧ k < 14 → (¬ (¬ l1 = -1 ∧ 0 ≤ l1 ∧ l1 ≤ 9 ∧ 0 ≤ l2 ∧ l2 ≤ 9 ∧ ¬ l1 = l2 ∧ g 36 5 < 14) → g 40 k = g 40 k) ∧ ((¬ l1 = -1 ∧ 0 ≤ l1 ∧ l1 ≤ 9 ∧ 0 ≤ l2 ∧ l2 ≤ 9 ∧ ¬ l1 = l2 ∧ g 36 5 < 14) → (k = g 36 5 → g 40 k = l2) ∧ (¬ k = g 36 5 → g 40 k = g 40 k)) := by
                intro k hk
                have m_24 : 0 ≤ (g 40 k) ∧ (g 40 k) ≤ 9 := I.1 40 k
                omega
              exact hQ _ _ I (zk_f0 _) ⟨by omega, by omega⟩ (by omega) (by omega) (by omega) z_23 z_25
            · have m_26 : 0 ≤ (g 36 5) ∧ (g 36 5) ≤ 14 := I.1 36 5
              refine ⟨⟨by omega, by omega⟩, ?_⟩
              refine ⟨fun c9 => ?_, fun c9 => ?_⟩
              · refine ⟨⟨by omega, by omega⟩, ?_⟩
                intro g5 e_27
                have I_28 : zk_I g5 := by rw [e_27]; exact zk_upd (L := 0) (H := 9) rfl rfl I ⟨by omega, by omega⟩
                have F_29 : zk_fr fr_S_quarrel g g5 := by rw [e_27]; exact zk_fu (zk_f0 _) (Or.inl rfl)
                have m_33 : 0 ≤ (g5 36 5) ∧ (g5 36 5) ≤ 14 := I_28.1 36 5
                have m_34 : g5 36 5 = g 36 5 := by rw [e_27]; exact zi_u_ne (by decide)
                refine ⟨⟨by omega, by omega⟩, ?_⟩
                intro g7 e_30
                have I_31 : zk_I g7 := by rw [e_30]; exact zk_upd (L := 0) (H := 9) rfl rfl I_28 ⟨by omega, by omega⟩
                have F_32 : zk_fr fr_S_quarrel g g7 := by rw [e_30]; exact zk_fu F_29 (Or.inr (Or.inl rfl))
                have m_38 : 0 ≤ (g7 36 5) ∧ (g7 36 5) ≤ 14 := I_31.1 36 5
                have m_39 : g7 36 5 = g5 36 5 := by rw [e_30]; exact zi_u_ne (by decide)
                intro g8 e_35
                have I_36 : zk_I g8 := by rw [e_35]; exact zk_upd (L := 0) (H := 14) rfl rfl I_31 ⟨by omega, by omega⟩
                have F_37 : zk_fr fr_S_quarrel g g8 := by rw [e_35]; exact zk_fu F_32 (Or.inr (Or.inr ⟨rfl, rfl⟩))
                have m_40 : 0 ≤ (g8 36 5) ∧ (g8 36 5) ≤ 14 := I_36.1 36 5
                have m_41 : g8 36 5 = (g7 36 5) + 1 := by rw [e_35]; exact zi_u_eq
                have z_49 : ∀ k : Int, 0 ≤ k ∧ k < 14 → (¬ (¬ l1 = -1 ∧ 0 ≤ l1 ∧ l1 ≤ 9 ∧ 0 ≤ l2 ∧ l2 ≤ 9 ∧ ¬ l1 = l2 ∧ g 36 5 < 14) → g8 39 k = g 39 k) ∧ ((¬ l1 = -1 ∧ 0 ≤ l1 ∧ l1 ≤ 9 ∧ 0 ≤ l2 ∧ l2 ≤ 9 ∧ ¬ l1 = l2 ∧ g 36 5 < 14) → (k = g 36 5 → g8 39 k = l1) ∧ (¬ k = g 36 5 → g8 39 k = g 39 k)) := by
                  intro k hk
                  have m_42 : 0 ≤ (g8 39 k) ∧ (g8 39 k) ≤ 9 := I_36.1 39 k
                  have m_43 : g8 39 k = g7 39 k := by rw [e_35]; exact zi_u_ne (by decide)
                  have m_44 : 0 ≤ (g7 39 k) ∧ (g7 39 k) ≤ 9 := I_31.1 39 k
                  have m_45 : g7 39 k = g5 39 k := by rw [e_30]; exact zi_u_ne (by decide)
                  have m_46 : 0 ≤ (g5 39 k) ∧ (g5 39 k) ≤ 9 := I_28.1 39 k
                  have m_47 : 0 ≤ (g 39 k) ∧ (g 39 k) ≤ 9 := I.1 39 k
                  have m_48 : (k = g 36 5 → g5 39 k = l1) ∧ (¬ k = g 36 5 → g5 39 k = g 39 k) := by rw [e_27]; exact zi_u_if
                  omega
                have z_57 : ∀ k : Int, 0 ≤ k ∧ k < 14 → (¬ (¬ l1 = -1 ∧ 0 ≤ l1 ∧ l1 ≤ 9 ∧ 0 ≤ l2 ∧ l2 ≤ 9 ∧ ¬ l1 = l2 ∧ g 36 5 < 14) → g8 40 k = g 40 k) ∧ ((¬ l1 = -1 ∧ 0 ≤ l1 ∧ l1 ≤ 9 ∧ 0 ≤ l2 ∧ l2 ≤ 9 ∧ ¬ l1 = l2 ∧ g 36 5 < 14) → (k = g 36 5 → g8 40 k = l2) ∧ (¬ k = g 36 5 → g8 40 k = g 40 k)) := by
                  intro k hk
                  have m_50 : 0 ≤ (g8 40 k) ∧ (g8 40 k) ≤ 9 := I_36.1 40 k
                  have m_51 : g8 40 k = g7 40 k := by rw [e_35]; exact zi_u_ne (by decide)
                  have m_52 : 0 ≤ (g7 40 k) ∧ (g7 40 k) ≤ 9 := I_31.1 40 k
                  have m_53 : 0 ≤ (g5 40 k) ∧ (g5 40 k) ≤ 9 := I_28.1 40 k
                  have m_54 : g5 40 k = g 40 k := by rw [e_27]; exact zi_u_ne (by decide)
                  have m_55 : 0 ≤ (g 40 k) ∧ (g 40 k) ≤ 9 := I.1 40 k
                  have m_56 : (k = g5 36 5 → g7 40 k = l2) ∧ (¬ k = g5 36 5 → g7 40 k = g5 40 k) := by rw [e_30]; exact zi_u_if
                  omega
                exact hQ _ _ I_36 F_37 ⟨by omega, by omega⟩ (by omega) (by omega) (by omega) z_49 z_57
              · have z_59 : ∀ k : Int, 0 ≤ k ∧ k < 14 → (¬ (¬ l1 = -1 ∧ 0 ≤ l1 ∧ l1 ≤ 9 ∧ 0 ≤ l2 ∧ l2 ≤ 9 ∧ ¬ l1 = l2 ∧ g 36 5 < 14) → g 39 k = g 39 k) ∧ ((¬ l1 = -1 ∧ 0 ≤ l1 ∧ l1 ≤ 9 ∧ 0 ≤ l2 ∧ l2 ≤ 9 ∧ ¬ l1 = l2 ∧ g 36 5 < 14) → (k = g 36 5 → g 39 k = l1) ∧ (¬ k = g 36 5 → g 39 k = g 39 k)) := by
                  intro k hk
                  have m_58 : 0 ≤ (g 39 k) ∧ (g 39 k) ≤ 9 := I.1 39 k
                  omega
                have z_61 : ∀ k : Int, 0 ≤ k ∧ k < 14 → (¬ (¬ l1 = -1 ∧ 0 ≤ l1 ∧ l1 ≤ 9 ∧ 0 ≤ l2 ∧ l2 ≤ 9 ∧ ¬ l1 = l2 ∧ g 36 5 < 14) → g 40 k = g 40 k) ∧ ((¬ l1 = -1 ∧ 0 ≤ l1 ∧ l1 ≤ 9 ∧ 0 ≤ l2 ∧ l2 ≤ 9 ∧ ¬ l1 = l2 ∧ g 36 5 < 14) → (k = g 36 5 → g 40 k = l2) ∧ (¬ k = g 36 5 → g 40 k = g 40 k)) := by
                  intro k hk
                  have m_60 : 0 ≤ (g 40 k) ∧ (g 40 k) ≤ 9 := I.1 40 k
                  omega
                exact hQ _ _ I (zk_f0 _) ⟨by omega, by omega⟩ (by omega) (by omega) (by omega) z_59 z_61
  · intro g15 e_62
    have I_63 : zk_I g15 := by rw [e_62]; exact zk_upd (L := 0) (H := 14) rfl rfl I ⟨by omega, by omega⟩
    have F_64 : zk_fr fr_S_quarrel g g15 := by rw [e_62]; exact zk_fu (zk_f0 _) (Or.inr (Or.inr ⟨rfl, rfl⟩))
    have m_65 : 0 ≤ (g15 36 5) ∧ (g15 36 5) ≤ 14 := I_63.1 36 5
    have m_66 : g15 36 5 = 0 := by rw [e_62]; exact zi_u_eq
    have z_70 : ∀ k : Int, 0 ≤ k ∧ k < 14 → (¬ (¬ l1 = -1 ∧ 0 ≤ l1 ∧ l1 ≤ 9 ∧ 0 ≤ l2 ∧ l2 ≤ 9 ∧ ¬ l1 = l2 ∧ g 36 5 < 14) → g15 39 k = g 39 k) ∧ ((¬ l1 = -1 ∧ 0 ≤ l1 ∧ l1 ≤ 9 ∧ 0 ≤ l2 ∧ l2 ≤ 9 ∧ ¬ l1 = l2 ∧ g 36 5 < 14) → (k = g 36 5 → g15 39 k = l1) ∧ (¬ k = g 36 5 → g15 39 k = g 39 k)) := by
      intro k hk
      have m_67 : 0 ≤ (g15 39 k) ∧ (g15 39 k) ≤ 9 := I_63.1 39 k
      have m_68 : g15 39 k = g 39 k := by rw [e_62]; exact zi_u_ne (by decide)
      have m_69 : 0 ≤ (g 39 k) ∧ (g 39 k) ≤ 9 := I.1 39 k
      omega
    have z_74 : ∀ k : Int, 0 ≤ k ∧ k < 14 → (¬ (¬ l1 = -1 ∧ 0 ≤ l1 ∧ l1 ≤ 9 ∧ 0 ≤ l2 ∧ l2 ≤ 9 ∧ ¬ l1 = l2 ∧ g 36 5 < 14) → g15 40 k = g 40 k) ∧ ((¬ l1 = -1 ∧ 0 ≤ l1 ∧ l1 ≤ 9 ∧ 0 ≤ l2 ∧ l2 ≤ 9 ∧ ¬ l1 = l2 ∧ g 36 5 < 14) → (k = g 36 5 → g15 40 k = l2) ∧ (¬ k = g 36 5 → g15 40 k = g 40 k)) := by
      intro k hk
      have m_71 : 0 ≤ (g15 40 k) ∧ (g15 40 k) ≤ 9 := I_63.1 40 k
      have m_72 : g15 40 k = g 40 k := by rw [e_62]; exact zi_u_ne (by decide)
      have m_73 : 0 ≤ (g 40 k) ∧ (g 40 k) ≤ 9 := I.1 40 k
      omega
    exact hQ _ _ I_63 F_64 ⟨by omega, by omega⟩ (by omega) (by omega) (by omega) z_70 z_74
-- SpoutNewsModel.quarrel(II)I
set_option maxRecDepth 100000 in
set_option maxHeartbeats 4000000 in
theorem k_M_quarrel_l17 {l1 : Int} {l2 : Int} {K36 : zi_M → Prop} {Q : Int → zi_M → Prop} {g0 : zi_M} (hK36 : ∀ (g : zi_M), zk_I g → zk_fr fr_M_quarrel g0 g → (g 214 50 = 0) → (∀ k : Int, 0 ≤ k → k < 10 → g 242 k = 0) → K36 g) (hQ : ∀ (v : Int) (g' : zi_M), zk_I g' → zk_fr fr_M_quarrel g0 g' → ((-1) ≤ v ∧ v ≤ 14) → (l1 = -1 → v = 0 ∧ g' 214 50 = 0) → (¬ l1 = -1 → 0 ≤ l1 ∧ l1 ≤ 9 ∧ 0 ≤ l2 ∧ l2 ≤ 9 ∧ ¬ l1 = l2 ∧ g0 214 50 < 14 → v = g0 214 50 + 1 ∧ g' 214 50 = g0 214 50 + 1) → (¬ l1 = -1 → ¬ (0 ≤ l1 ∧ l1 ≤ 9 ∧ 0 ≤ l2 ∧ l2 ≤ 9 ∧ ¬ l1 = l2 ∧ g0 214 50 < 14) → v = -1 ∧ g' 214 50 = g0 214 50) → (l1 = -1 → ∀ k : Int, 0 ≤ k → k < 10 → g' 242 k = 0) → (¬ l1 = -1 → 0 ≤ l1 ∧ l1 ≤ 9 ∧ 0 ≤ l2 ∧ l2 ≤ 9 ∧ ¬ l1 = l2 ∧ g0 214 50 < 14 → ∀ k : Int, 0 ≤ k → k < 10 → (k = l1 → g' 242 k = zi_or (g0 242 k) (zi_shl 1 l2)) ∧ (k = l2 → g' 242 k = zi_or (g0 242 k) (zi_shl 1 l1)) ∧ (¬ k = l1 → ¬ k = l2 → g' 242 k = g0 242 k)) → (¬ l1 = -1 → ¬ (0 ≤ l1 ∧ l1 ≤ 9 ∧ 0 ≤ l2 ∧ l2 ≤ 9 ∧ ¬ l1 = l2 ∧ g0 214 50 < 14) → ∀ k : Int, 0 ≤ k → k < 10 → g' 242 k = g0 242 k) → Q v g') : ∀ (n : Nat) {l3 : Int} {g : zi_M}, zk_I g → zk_fr fr_M_quarrel g0 g → (0 ≤ l3 ∧ l3 ≤ 10) → (g 214 50 = 0) → (∀ k : Int, 0 ≤ k → k < l3 → g 242 k = 0) → 10 - l3 < (n : Int) → w_M_quarrel_l17 K36 Q n l3 g
  | 0, l3, g, I, F, b0, b1, b2, hm => by exfalso; omega
  | n + 1, l3, g, I, F, b0, b1, b2, hm => by
    unfold w_M_quarrel_l17
    refine ⟨⟨by omega, by omega⟩, ?_⟩
    refine ⟨fun c24 => ?_, fun c24 => ?_⟩
    · have m_64 : 0 ≤ (g 214 50) ∧ (g 214 50) ≤ 14 := I.1 214 50
      exact hK36 _ I F (by omega) (by intro k k0 k1; exact (by assumption : ∀ k : Int, 0 ≤ k → k < l3 → g 242 k = 0) k k0 (by omega))
    · refine ⟨⟨by omega, by omega⟩, ?_⟩
      intro g23 e_65
      have I_66 : zk_I g23 := by rw [e_65]; exact zk_upd (L := 0) (H := 1023) rfl rfl I ⟨by omega, by omega⟩
      have F_67 : zk_fr fr_M_quarrel g0 g23 := by rw [e_65]; exact zk_fu F (Or.inl rfl)
      have m_68 : 0 ≤ (g23 214 50) ∧ (g23 214 50) ≤ 14 := I_66.1 214 50
      have m_69 : g23 214 50 = g 214 50 := by rw [e_65]; exact zi_u_ne (by decide)
      have m_70 : 0 ≤ (g 214 50) ∧ (g 214 50) ≤ 14 := I.1 214 50
      exact k_M_quarrel_l17 hK36 hQ n I_66 F_67 ⟨by omega, by omega⟩ (by omega) (by first | (intro k k0 k1; exfalso; omega) | exact zqM_z (by assumption) (by assumption)) (by omega)
set_option maxRecDepth 100000 in
set_option maxHeartbeats 4000000 in
theorem k_M_quarrel {l1 : Int} {l2 : Int} {g : zi_M} {Q : Int → zi_M → Prop} (I : zk_I g) (p1 : (-2147483648) ≤ l1 ∧ l1 ≤ 2147483647) (p2 : (-2147483648) ≤ l2 ∧ l2 ≤ 2147483647) (hQ : ∀ (v : Int) (g' : zi_M), zk_I g' → zk_fr fr_M_quarrel g g' → ((-1) ≤ v ∧ v ≤ 14) → (l1 = -1 → v = 0 ∧ g' 214 50 = 0) → (¬ l1 = -1 → 0 ≤ l1 ∧ l1 ≤ 9 ∧ 0 ≤ l2 ∧ l2 ≤ 9 ∧ ¬ l1 = l2 ∧ g 214 50 < 14 → v = g 214 50 + 1 ∧ g' 214 50 = g 214 50 + 1) → (¬ l1 = -1 → ¬ (0 ≤ l1 ∧ l1 ≤ 9 ∧ 0 ≤ l2 ∧ l2 ≤ 9 ∧ ¬ l1 = l2 ∧ g 214 50 < 14) → v = -1 ∧ g' 214 50 = g 214 50) → (l1 = -1 → ∀ k : Int, 0 ≤ k → k < 10 → g' 242 k = 0) → (¬ l1 = -1 → 0 ≤ l1 ∧ l1 ≤ 9 ∧ 0 ≤ l2 ∧ l2 ≤ 9 ∧ ¬ l1 = l2 ∧ g 214 50 < 14 → ∀ k : Int, 0 ≤ k → k < 10 → (k = l1 → g' 242 k = zi_or (g 242 k) (zi_shl 1 l2)) ∧ (k = l2 → g' 242 k = zi_or (g 242 k) (zi_shl 1 l1)) ∧ (¬ k = l1 → ¬ k = l2 → g' 242 k = g 242 k)) → (¬ l1 = -1 → ¬ (0 ≤ l1 ∧ l1 ≤ 9 ∧ 0 ≤ l2 ∧ l2 ≤ 9 ∧ ¬ l1 = l2 ∧ g 214 50 < 14) → ∀ k : Int, 0 ≤ k → k < 10 → g' 242 k = g 242 k) → Q v g') : w_M_quarrel l1 l2 g Q := by
  unfold w_M_quarrel
  intro g1 e_1
  have I_2 : zk_I g1 := by rw [e_1]; exact zk_upd (L := (-2147483648)) (H := 2147483647) rfl rfl I ⟨by omega, by omega⟩
  have F_3 : zk_fr fr_M_quarrel g g1 := by rw [e_1]; exact zk_fu (zk_f0 _) (Or.inr (Or.inl ⟨rfl, rfl⟩))
  refine ⟨⟨by omega, by omega⟩, ?_⟩
  refine ⟨fun c27 => ?_, fun c27 => ?_⟩
  · refine k_M_isIn I_2 ⟨by omega, by omega⟩ ⟨by omega, by omega⟩ ⟨by omega, by omega⟩ (fun v3 b_4 b_5 b_6 => ?_)
    refine ⟨fun c19 => ?_, fun c19 => ?_⟩
    · have m_7 : 0 ≤ (g1 214 50) ∧ (g1 214 50) ≤ 14 := I_2.1 214 50
      have m_8 : g1 214 50 = g 214 50 := by rw [e_1]; exact zi_u_ni (by decide)
      have m_9 : 0 ≤ (g 214 50) ∧ (g 214 50) ≤ 14 := I.1 214 50
      exact hQ _ _ I_2 F_3 ⟨by omega, by omega⟩ (by omega) (by omega) (by omega) (by intro hl; first | (exfalso; omega) | assumption) (by first | (intro hl ho; exfalso; omega) | exact zqM_u (by assumption) (by assumption) (by assumption) (by assumption) (by assumption)) (by intro hl ho k k0 k1; first | (exfalso; omega) | exact zqM_k (by assumption))
    · refine k_M_isIn I_2 ⟨by omega, by omega⟩ ⟨by omega, by omega⟩ ⟨by omega, by omega⟩ (fun v6 b_10 b_11 b_12 => ?_)
      refine ⟨fun c18 => ?_, fun c18 => ?_⟩
      · have m_13 : 0 ≤ (g1 214 50) ∧ (g1 214 50) ≤ 14 := I_2.1 214 50
        have m_14 : g1 214 50 = g 214 50 := by rw [e_1]; exact zi_u_ni (by decide)
        have m_15 : 0 ≤ (g 214 50) ∧ (g 214 50) ≤ 14 := I.1 214 50
        exact hQ _ _ I_2 F_3 ⟨by omega, by omega⟩ (by omega) (by omega) (by omega) (by intro hl; first | (exfalso; omega) | assumption) (by first | (intro hl ho; exfalso; omega) | exact zqM_u (by assumption) (by assumption) (by assumption) (by assumption) (by assumption)) (by intro hl ho k k0 k1; first | (exfalso; omega) | exact zqM_k (by assumption))
      · refine ⟨⟨by omega, by omega⟩, ?_⟩
        refine ⟨fun c17 => ?_, fun c17 => ?_⟩
        · have m_16 : 0 ≤ (g1 214 50) ∧ (g1 214 50) ≤ 14 := I_2.1 214 50
          have m_17 : g1 214 50 = g 214 50 := by rw [e_1]; exact zi_u_ni (by decide)
          have m_18 : 0 ≤ (g 214 50) ∧ (g 214 50) ≤ 14 := I.1 214 50
          exact hQ _ _ I_2 F_3 ⟨by omega, by omega⟩ (by omega) (by omega) (by omega) (by intro hl; first | (exfalso; omega) | assumption) (by first | (intro hl ho; exfalso; omega) | exact zqM_u (by assumption) (by assumption) (by assumption) (by assumption) (by assumption)) (by intro hl ho k k0 k1; first | (exfalso; omega) | exact zqM_k (by assumption))
        · have m_19 : 0 ≤ (g1 214 50) ∧ (g1 214 50) ≤ 14 := I_2.1 214 50
          have m_20 : g1 214 50 = g 214 50 := by rw [e_1]; exact zi_u_ni (by decide)
          have m_21 : 0 ≤ (g 214 50) ∧ (g 214 50) ≤ 14 := I.1 214 50
          refine ⟨⟨by omega, by omega⟩, ?_⟩
          refine ⟨fun c16 => ?_, fun c16 => ?_⟩
          · refine ⟨⟨by omega, by omega⟩, ?_⟩
            have m_25 : 0 ≤ (g1 242 l1) ∧ (g1 242 l1) ≤ 1023 := I_2.1 242 l1
            have m_26 : g1 242 l1 = g 242 l1 := by rw [e_1]; exact zi_u_ne (by decide)
            have m_27 : 0 ≤ (g 242 l1) ∧ (g 242 l1) ≤ 1023 := I.1 242 l1
            have m_28 := zi_r_shl 1 l2
            try have m_29 := (zi_shl_f l2).2.1 ⟨by omega, by omega⟩
            first | have m_30 := (zi_shl_f l2).2.2.1 ⟨by omega, by omega⟩ | have m_31 := (zi_shl_f l2).2.2.2.1 ⟨by omega, by omega⟩ | have m_32 := (zi_shl_f l2).2.2.2.2.1 ⟨by omega, by omega⟩ | have m_33 := (zi_shl_f l2).2.2.2.2.2.1 ⟨by omega, by omega⟩ | have m_34 := (zi_shl_f l2).2.2.2.2.2.2 ⟨by omega, by omega⟩ | skip
            first | have m_35 := (zi_or_f (g1 242 l1) (zi_shl 1 l2)).2.1 ⟨by omega, by omega, by omega, by omega⟩ | have m_35 := (zi_or_f (g1 242 l1) (zi_shl 1 l2)).2.2.1 ⟨by omega, by omega, by omega, by omega⟩ | have m_35 := (zi_or_f (g1 242 l1) (zi_shl 1 l2)).2.2.2.1 ⟨by omega, by omega, by omega, by omega⟩ | have m_35 := (zi_or_f (g1 242 l1) (zi_shl 1 l2)).2.2.2.2.1 ⟨by omega, by omega, by omega, by omega⟩ | have m_35 := (zi_or_f (g1 242 l1) (zi_shl 1 l2)).2.2.2.2.2 ⟨by omega, by omega, by omega, by omega⟩ | have m_35 := zi_r_or (g1 242 l1) (zi_shl 1 l2)
            intro g12 e_22
            have I_23 : zk_I g12 := by rw [e_22]; exact zk_upd (L := 0) (H := 1023) rfl rfl I_2 ⟨by omega, by omega⟩
            have F_24 : zk_fr fr_M_quarrel g g12 := by rw [e_22]; exact zk_fu F_3 (Or.inl rfl)
            refine ⟨⟨by omega, by omega⟩, ?_⟩
            have m_39 : 0 ≤ (g12 242 l2) ∧ (g12 242 l2) ≤ 1023 := I_23.1 242 l2
            have m_40 : 0 ≤ (g1 242 l2) ∧ (g1 242 l2) ≤ 1023 := I_2.1 242 l2
            have m_41 : g1 242 l2 = g 242 l2 := by rw [e_1]; exact zi_u_ne (by decide)
            have m_42 : 0 ≤ (g 242 l2) ∧ (g 242 l2) ≤ 1023 := I.1 242 l2
            have m_43 : (l2 = l1 → g12 242 l2 = zi_or (g1 242 l1) (zi_shl 1 l2)) ∧ (¬ l2 = l1 → g12 242 l2 = g1 242 l2) := by rw [e_22]; exact zi_u_if
            have m_44 := zi_r_shl 1 l1
            try have m_45 := (zi_shl_f l1).2.1 ⟨by omega, by omega⟩
            first | have m_46 := (zi_shl_f l1).2.2.1 ⟨by omega, by omega⟩ | have m_47 := (zi_shl_f l1).2.2.2.1 ⟨by omega, by omega⟩ | have m_48 := (zi_shl_f l1).2.2.2.2.1 ⟨by omega, by omega⟩ | have m_49 := (zi_shl_f l1).2.2.2.2.2.1 ⟨by omega, by omega⟩ | have m_50 := (zi_shl_f l1).2.2.2.2.2.2 ⟨by omega, by omega⟩ | skip
            first | have m_51 := (zi_or_f (g12 242 l2) (zi_shl 1 l1)).2.1 ⟨by omega, by omega, by omega, by omega⟩ | have m_51 := (zi_or_f (g12 242 l2) (zi_shl 1 l1)).2.2.1 ⟨by omega, by omega, by omega, by omega⟩ | have m_51 := (zi_or_f (g12 242 l2) (zi_shl 1 l1)).2.2.2.1 ⟨by omega, by omega, by omega, by omega⟩ | have m_51 := (zi_or_f (g12 242 l2) (zi_shl 1 l1)).2.2.2.2.1 ⟨by omega, by omega, by omega, by omega⟩ | have m_51 := (zi_or_f (g12 242 l2) (zi_shl 1 l1)).2.2.2.2.2 ⟨by omega, by omega, by omega, by omega⟩ | have m_51 := zi_r_or (g12 242 l2) (zi_shl 1 l1)
            intro g14 e_36
            have I_37 : zk_I g14 := by rw [e_36]; exact zk_upd (L := 0) (H := 1023) rfl rfl I_23 ⟨by omega, by omega⟩
            have F_38 : zk_fr fr_M_quarrel g g14 := by rw [e_36]; exact zk_fu F_24 (Or.inl rfl)
            have m_55 : 0 ≤ (g14 214 50) ∧ (g14 214 50) ≤ 14 := I_37.1 214 50
            have m_56 : g14 214 50 = g12 214 50 := by rw [e_36]; exact zi_u_ne (by decide)
            have m_57 : 0 ≤ (g12 214 50) ∧ (g12 214 50) ≤ 14 := I_23.1 214 50
            have m_58 : g12 214 50 = g1 214 50 := by rw [e_22]; exact zi_u_ne (by decide)
            intro g15 e_52
            have I_53 : zk_I g15 := by rw [e_52]; exact zk_upd (L := 0) (H := 14) rfl rfl I_37 ⟨by omega, by omega⟩
            have F_54 : zk_fr fr_M_quarrel g g15 := by rw [e_52]; exact zk_fu F_38 (Or.inr (Or.inr ⟨rfl, rfl⟩))
            have m_59 : 0 ≤ (g15 214 50) ∧ (g15 214 50) ≤ 14 := I_53.1 214 50
            have m_60 : g15 214 50 = (g14 214 50) + 1 := by rw [e_52]; exact zi_u_eq
            exact hQ _ _ I_53 F_54 ⟨by omega, by omega⟩ (by omega) (by omega) (by omega) (by intro hl; first | (exfalso; omega) | assumption) (by first | (intro hl ho; exfalso; omega) | exact zqM_u (by assumption) (by assumption) (by assumption) (by assumption) (by assumption)) (by intro hl ho k k0 k1; first | (exfalso; omega) | exact zqM_k (by assumption))
          · exact hQ _ _ I_2 F_3 ⟨by omega, by omega⟩ (by omega) (by omega) (by omega) (by intro hl; first | (exfalso; omega) | assumption) (by first | (intro hl ho; exfalso; omega) | exact zqM_u (by assumption) (by assumption) (by assumption) (by assumption) (by assumption)) (by intro hl ho k k0 k1; first | (exfalso; omega) | exact zqM_k (by assumption))
  · intro g20 e_61
    have I_62 : zk_I g20 := by rw [e_61]; exact zk_upd (L := 0) (H := 14) rfl rfl I_2 ⟨by omega, by omega⟩
    have F_63 : zk_fr fr_M_quarrel g g20 := by rw [e_61]; exact zk_fu F_3 (Or.inr (Or.inr ⟨rfl, rfl⟩))
    have m_76 : 0 ≤ (g20 214 50) ∧ (g20 214 50) ≤ 14 := I_62.1 214 50
    have m_77 : g20 214 50 = 0 := by rw [e_61]; exact zi_u_eq
    refine ⟨((10 - 0 : Int).toNat + 1), k_M_quarrel_l17 (fun g25 I_71 F_72 b_73 b_74 => ?_) hQ ((10 - 0 : Int).toNat + 1) I_62 F_63 ⟨by omega, by omega⟩ (by omega) (by first | (intro k k0 k1; exfalso; omega) | exact zqM_z (by assumption) (by assumption)) (by omega)⟩
    have m_75 : 0 ≤ (g25 214 50) ∧ (g25 214 50) ≤ 14 := I_71.1 214 50
    exact hQ _ _ I_71 F_72 ⟨by omega, by omega⟩ (by omega) (by omega) (by omega) (by intro hl; first | (exfalso; omega) | assumption) (by first | (intro hl ho; exfalso; omega) | exact zqM_u (by assumption) (by assumption) (by assumption) (by assumption) (by assumption)) (by intro hl ho k k0 k1; first | (exfalso; omega) | exact zqM_k (by assumption))
-- SpoutNews$Thought.spread(LSpoutNews$Told;)V
set_option maxRecDepth 100000 in
set_option maxHeartbeats 4000000 in
theorem k_Thought_spread_b75 {l3 : Int} {l4 : Int} {l5 : Int} {l2 : Int} {H : Int → zi_M → Prop} {K119 : zi_M → Prop} {Q : Int → zi_M → Prop} {g : zi_M} {g0 : zi_M} (I : zk_I g) (F : zk_fr fr_Thought_spread g0 g) (p3 : 0 ≤ l3 ∧ l3 ≤ 13) (p4 : 0 ≤ l4 ∧ l4 ≤ 9) (p5 : 0 ≤ l5 ∧ l5 ≤ 9) (ix0 : zcT (g0 39) (g0 40) (g0 36 5) l2 l3 (g0 184) (g 184)) (ix1 : 0 ≤ l2) (ix2 : l4 = g 39 l3) (ix3 : l5 = g 40 l3) (ix4 : l3 < g 36 5) (ix5 : g 184 l4 = -1 ∨ ¬ g 184 l5 = -1) (M : Int) (hM : 14 - l3 ≤ M) (hH : ∀ (m3 : Int) (g : zi_M), zk_I g → zk_fr fr_Thought_spread g0 g → (0 ≤ m3 ∧ m3 ≤ 14) → (0 ≤ l2) → (zcT (g0 39) (g0 40) (g0 36 5) l2 m3 (g0 184) (g 184)) → 14 - m3 < M → H m3 g) (hK119 : ∀ (g : zi_M), zk_I g → zk_fr fr_Thought_spread g0 g → (zcTR (g0 39) (g0 40) (g0 36 5) (l2 + 1) (g0 184) (g 184)) → K119 g) (hQ : ∀ g' : zi_M, zk_I g' → zk_fr fr_Thought_spread g0 g' → (zcTR (g0 39) (g0 40) (g0 36 5) 10 (g0 184) (g' 184)) → Q 0 g') : w_Thought_spread_b75 l3 l4 l5 g H K119 Q := by
  unfold w_Thought_spread_b75
  refine ⟨⟨by omega, by omega⟩, ?_⟩
  have m_4 : (-1) ≤ (g 184 l4) ∧ (g 184 l4) ≤ 31 := I.1 184 l4
  refine ⟨⟨by omega, by omega⟩, ?_⟩
  refine ⟨fun c13 => ?_, fun c13 => ?_⟩
  · exact hH _ _ I F ⟨by omega, by omega⟩ (by omega) (by first | exact zcT_eq (a := l4) (b := l5) ix0 (by have hf := F 39 l3 (by unfold fr_Thought_spread; omega); omega) (by have hf := F 40 l3 (by unfold fr_Thought_spread; omega); omega) ⟨fun _ => by omega, fun _ => by omega⟩ | exact zcT_eq (a := g 39 l3) (b := g 40 l3) (by assumption) (by have hf := F 39 l3 (by unfold fr_Thought_spread; omega); omega) (by have hf := F 40 l3 (by unfold fr_Thought_spread; omega); omega) ⟨fun _ => by omega, fun _ => by omega⟩ | exact zcT_a (a := l4) (b := l5) ix0 (by omega) (by have hf := F 36 5 (by unfold fr_Thought_spread; omega); omega) (by have hf := F 39 l3 (by unfold fr_Thought_spread; omega); omega) (by have hf := F 40 l3 (by unfold fr_Thought_spread; omega); omega) (by first | assumption | omega) (by first | assumption | omega) (by assumption) (by assumption) | exact zcT_b (a := g 39 l3) (b := g 40 l3) (by assumption) (by omega) (by have hf := F 36 5 (by unfold fr_Thought_spread; omega); omega) (by have hf := F 39 l3 (by unfold fr_Thought_spread; omega); omega) (by have hf := F 40 l3 (by unfold fr_Thought_spread; omega); omega) (by assumption) (by assumption) (by assumption) (by assumption) | exact zcT_0 (by assumption)) (by omega)
  · refine ⟨⟨by omega, by omega⟩, ?_⟩
    have m_5 : (-1) ≤ (g 184 l5) ∧ (g 184 l5) ≤ 31 := I.1 184 l5
    refine ⟨⟨by omega, by omega⟩, ?_⟩
    refine ⟨fun c12 => ?_, fun c12 => ?_⟩
    · exact hH _ _ I F ⟨by omega, by omega⟩ (by omega) (by first | exact zcT_eq (a := l4) (b := l5) ix0 (by have hf := F 39 l3 (by unfold fr_Thought_spread; omega); omega) (by have hf := F 40 l3 (by unfold fr_Thought_spread; omega); omega) ⟨fun _ => by omega, fun _ => by omega⟩ | exact zcT_eq (a := g 39 l3) (b := g 40 l3) (by assumption) (by have hf := F 39 l3 (by unfold fr_Thought_spread; omega); omega) (by have hf := F 40 l3 (by unfold fr_Thought_spread; omega); omega) ⟨fun _ => by omega, fun _ => by omega⟩ | exact zcT_a (a := l4) (b := l5) ix0 (by omega) (by have hf := F 36 5 (by unfold fr_Thought_spread; omega); omega) (by have hf := F 39 l3 (by unfold fr_Thought_spread; omega); omega) (by have hf := F 40 l3 (by unfold fr_Thought_spread; omega); omega) (by first | assumption | omega) (by first | assumption | omega) (by assumption) (by assumption) | exact zcT_b (a := g 39 l3) (b := g 40 l3) (by assumption) (by omega) (by have hf := F 36 5 (by unfold fr_Thought_spread; omega); omega) (by have hf := F 39 l3 (by unfold fr_Thought_spread; omega); omega) (by have hf := F 40 l3 (by unfold fr_Thought_spread; omega); omega) (by assumption) (by assumption) (by assumption) (by assumption) | exact zcT_0 (by assumption)) (by omega)
    · first | have m_9 := (zi_xor_f (g 184 l5) 1).2.1 ⟨by omega, by omega, by omega, by omega⟩ | have m_9 := (zi_xor_f (g 184 l5) 1).2.2.1 ⟨by omega, by omega, by omega, by omega⟩ | have m_9 := (zi_xor_f (g 184 l5) 1).2.2.2 ⟨by omega, by omega, by omega, by omega⟩ | have m_9 := zi_r_xor (g 184 l5) 1
      intro g11 e_6
      have I_7 : zk_I g11 := by rw [e_6]; exact zk_upd (L := (-1)) (H := 31) rfl rfl I ⟨by omega, by omega⟩
      have F_8 : zk_fr fr_Thought_spread g0 g11 := by rw [e_6]; exact zk_fu F rfl
      exact hH _ _ I_7 F_8 ⟨by omega, by omega⟩ (by omega) (by first | exact zcT_eq (a := l4) (b := l5) ix0 (by have hf := F 39 l3 (by unfold fr_Thought_spread; omega); omega) (by have hf := F 40 l3 (by unfold fr_Thought_spread; omega); omega) ⟨fun _ => by omega, fun _ => by omega⟩ | exact zcT_eq (a := g 39 l3) (b := g 40 l3) (by assumption) (by have hf := F 39 l3 (by unfold fr_Thought_spread; omega); omega) (by have hf := F 40 l3 (by unfold fr_Thought_spread; omega); omega) ⟨fun _ => by omega, fun _ => by omega⟩ | exact zcT_a (a := l4) (b := l5) ix0 (by omega) (by have hf := F 36 5 (by unfold fr_Thought_spread; omega); omega) (by have hf := F 39 l3 (by unfold fr_Thought_spread; omega); omega) (by have hf := F 40 l3 (by unfold fr_Thought_spread; omega); omega) (by first | assumption | omega) (by first | assumption | omega) (by assumption) (by assumption) | exact zcT_b (a := g 39 l3) (b := g 40 l3) (by assumption) (by omega) (by have hf := F 36 5 (by unfold fr_Thought_spread; omega); omega) (by have hf := F 39 l3 (by unfold fr_Thought_spread; omega); omega) (by have hf := F 40 l3 (by unfold fr_Thought_spread; omega); omega) (by assumption) (by assumption) (by assumption) (by assumption) | exact zcT_0 (by assumption)) (by omega)
set_option maxRecDepth 100000 in
set_option maxHeartbeats 4000000 in
theorem k_Thought_spread_l10 {x2 : Int} {K119 : zi_M → Prop} {Q : Int → zi_M → Prop} {g0 : zi_M} (hK119 : ∀ (g : zi_M), zk_I g → zk_fr fr_Thought_spread g0 g → (zcTR (g0 39) (g0 40) (g0 36 5) (x2 + 1) (g0 184) (g 184)) → K119 g) (hQ : ∀ g' : zi_M, zk_I g' → zk_fr fr_Thought_spread g0 g' → (zcTR (g0 39) (g0 40) (g0 36 5) 10 (g0 184) (g' 184)) → Q 0 g') : ∀ (n : Nat) {l3 : Int} {g : zi_M}, zk_I g → zk_fr fr_Thought_spread g0 g → (0 ≤ l3 ∧ l3 ≤ 14) → (0 ≤ x2) → (zcT (g0 39) (g0 40) (g0 36 5) x2 l3 (g0 184) (g 184)) → 14 - l3 < (n : Int) → w_Thought_spread_l10 K119 Q n l3 g
  | 0, l3, g, I, F, b0, b1, b2, hm => by exfalso; omega
  | n + 1, l3, g, I, F, b0, b1, b2, hm => by
    unfold w_Thought_spread_l10
    have m_1 : 0 ≤ (g 36 5) ∧ (g 36 5) ≤ 14 := I.1 36 5
    refine ⟨⟨by omega, by omega⟩, ⟨by omega, by omega⟩, ?_⟩
    refine ⟨fun c19 => ?_, fun c19 => ?_⟩
    · exact hK119 _ I F (by exact zcTR_1 (by assumption) (by have hf := F 36 5 (by unfold fr_Thought_spread; omega); omega) (by omega))
    · refine ⟨⟨by omega, by omega⟩, ?_⟩
      have m_2 : 0 ≤ (g 39 l3) ∧ (g 39 l3) ≤ 9 := I.1 39 l3
      refine ⟨⟨by omega, by omega⟩, ?_⟩
      have m_3 : (-1) ≤ (g 184 (g 39 l3)) ∧ (g 184 (g 39 l3)) ≤ 31 := I.1 184 (g 39 l3)
      refine ⟨⟨by omega, by omega⟩, ?_⟩
      refine ⟨fun c18 => ?_, fun c18 => ?_⟩
      · have m_10 : 0 ≤ (g 40 l3) ∧ (g 40 l3) ≤ 9 := I.1 40 l3
        have m_11 : (-1) ≤ (g 184 (g 40 l3)) ∧ (g 184 (g 40 l3)) ≤ 31 := I.1 184 (g 40 l3)
        exact k_Thought_spread_b75 I F ⟨by omega, by omega⟩ ⟨by omega, by omega⟩ ⟨by omega, by omega⟩ (by assumption) (by omega) (by rfl) (by rfl) (by assumption) (by first | exact Or.inl (by assumption) | exact Or.inr (by assumption)) (n : Int) (by omega) (fun _ _ I F b0 b1 b2 hm => k_Thought_spread_l10 hK119 hQ n I F b0 b1 b2 hm) hK119 hQ
      · have m_12 : 0 ≤ (g 40 l3) ∧ (g 40 l3) ≤ 9 := I.1 40 l3
        refine ⟨⟨by omega, by omega⟩, ?_⟩
        have m_13 : (-1) ≤ (g 184 (g 40 l3)) ∧ (g 184 (g 40 l3)) ≤ 31 := I.1 184 (g 40 l3)
        refine ⟨⟨by omega, by omega⟩, ?_⟩
        refine ⟨fun c17 => ?_, fun c17 => ?_⟩
        · exact k_Thought_spread_b75 I F ⟨by omega, by omega⟩ ⟨by omega, by omega⟩ ⟨by omega, by omega⟩ (by assumption) (by omega) (by rfl) (by rfl) (by assumption) (by first | exact Or.inl (by assumption) | exact Or.inr (by assumption)) (n : Int) (by omega) (fun _ _ I F b0 b1 b2 hm => k_Thought_spread_l10 hK119 hQ n I F b0 b1 b2 hm) hK119 hQ
        · first | have m_17 := (zi_xor_f (g 184 (g 39 l3)) 1).2.1 ⟨by omega, by omega, by omega, by omega⟩ | have m_17 := (zi_xor_f (g 184 (g 39 l3)) 1).2.2.1 ⟨by omega, by omega, by omega, by omega⟩ | have m_17 := (zi_xor_f (g 184 (g 39 l3)) 1).2.2.2 ⟨by omega, by omega, by omega, by omega⟩ | have m_17 := zi_r_xor (g 184 (g 39 l3)) 1
          intro g16 e_14
          have I_15 : zk_I g16 := by rw [e_14]; exact zk_upd (L := (-1)) (H := 31) rfl rfl I ⟨by omega, by omega⟩
          have F_16 : zk_fr fr_Thought_spread g0 g16 := by rw [e_14]; exact zk_fu F rfl
          exact k_Thought_spread_l10 hK119 hQ n I_15 F_16 ⟨by omega, by omega⟩ (by omega) (by first | exact zcT_eq (a := l4) (b := l5) ix0 (by have hf := F 39 l3 (by unfold fr_Thought_spread; omega); omega) (by have hf := F 40 l3 (by unfold fr_Thought_spread; omega); omega) ⟨fun _ => by omega, fun _ => by omega⟩ | exact zcT_eq (a := g 39 l3) (b := g 40 l3) (by assumption) (by have hf := F 39 l3 (by unfold fr_Thought_spread; omega); omega) (by have hf := F 40 l3 (by unfold fr_Thought_spread; omega); omega) ⟨fun _ => by omega, fun _ => by omega⟩ | exact zcT_a (a := l4) (b := l5) ix0 (by omega) (by have hf := F 36 5 (by unfold fr_Thought_spread; omega); omega) (by have hf := F 39 l3 (by unfold fr_Thought_spread; omega); omega) (by have hf := F 40 l3 (by unfold fr_Thought_spread; omega); omega) (by first | assumption | omega) (by first | assumption | omega) (by assumption) (by assumption) | exact zcT_b (a := g 39 l3) (b := g 40 l3) (by assumption) (by omega) (by have hf := F 36 5 (by unfold fr_Thought_spread; omega); omega) (by have hf := F 39 l3 (by unfold fr_Thought_spread; omega); omega) (by have hf := F 40 l3 (by unfold fr_Thought_spread; omega); omega) (by assumption) (by assumption) (by assumption) (by assumption) | exact zcT_0 (by assumption)) (by omega)
set_option maxRecDepth 100000 in
set_option maxHeartbeats 4000000 in
theorem k_Thought_spread_l2 {K125 : zi_M → Prop} {Q : Int → zi_M → Prop} {g0 : zi_M} (hK125 : ∀ (g : zi_M), zk_I g → zk_fr fr_Thought_spread g0 g → (zcTR (g0 39) (g0 40) (g0 36 5) 10 (g0 184) (g 184)) → K125 g) (hQ : ∀ g' : zi_M, zk_I g' → zk_fr fr_Thought_spread g0 g' → (zcTR (g0 39) (g0 40) (g0 36 5) 10 (g0 184) (g' 184)) → Q 0 g') : ∀ (n : Nat) {l2 : Int} {g : zi_M}, zk_I g → zk_fr fr_Thought_spread g0 g → (0 ≤ l2 ∧ l2 ≤ 10) → (zcTR (g0 39) (g0 40) (g0 36 5) l2 (g0 184) (g 184)) → 10 - l2 < (n : Int) → w_Thought_spread_l2 K125 Q n l2 g
  | 0, l2, g, I, F, b0, b1, hm => by exfalso; omega
  | n + 1, l2, g, I, F, b0, b1, hm => by
    unfold w_Thought_spread_l2
    refine ⟨⟨by omega, by omega⟩, ?_⟩
    refine ⟨fun c22 => ?_, fun c22 => ?_⟩
    · exact hK125 _ I F (by rw [show (10 : Int) = l2 by omega]; assumption)
    · refine ⟨((14 - 0 : Int).toNat + 1), k_Thought_spread_l10 (x2 := l2) (fun g20 I_18 F_19 b_20 => ?_) hQ ((14 - 0 : Int).toNat + 1) I F ⟨by omega, by omega⟩ (by omega) (by first | exact zcT_eq (a := l4) (b := l5) ix0 (by have hf := F 39 l3 (by unfold fr_Thought_spread; omega); omega) (by have hf := F 40 l3 (by unfold fr_Thought_spread; omega); omega) ⟨fun _ => by omega, fun _ => by omega⟩ | exact zcT_eq (a := g 39 l3) (b := g 40 l3) (by assumption) (by have hf := F 39 l3 (by unfold fr_Thought_spread; omega); omega) (by have hf := F 40 l3 (by unfold fr_Thought_spread; omega); omega) ⟨fun _ => by omega, fun _ => by omega⟩ | exact zcT_a (a := l4) (b := l5) ix0 (by omega) (by have hf := F 36 5 (by unfold fr_Thought_spread; omega); omega) (by have hf := F 39 l3 (by unfold fr_Thought_spread; omega); omega) (by have hf := F 40 l3 (by unfold fr_Thought_spread; omega); omega) (by first | assumption | omega) (by first | assumption | omega) (by assumption) (by assumption) | exact zcT_b (a := g 39 l3) (b := g 40 l3) (by assumption) (by omega) (by have hf := F 36 5 (by unfold fr_Thought_spread; omega); omega) (by have hf := F 39 l3 (by unfold fr_Thought_spread; omega); omega) (by have hf := F 40 l3 (by unfold fr_Thought_spread; omega); omega) (by assumption) (by assumption) (by assumption) (by assumption) | exact zcT_0 (by assumption)) (by omega)⟩
      exact k_Thought_spread_l2 hK125 hQ n I_18 F_19 ⟨by omega, by omega⟩ (by first | exact zcTR_0 | assumption) (by omega)
set_option maxRecDepth 100000 in
set_option maxHeartbeats 4000000 in
theorem k_Thought_spread {g : zi_M} {Q : Int → zi_M → Prop} (I : zk_I g) (hQ : ∀ g' : zi_M, zk_I g' → zk_fr fr_Thought_spread g g' → (zcTR (g 39) (g 40) (g 36 5) 10 (g 184) (g' 184)) → Q 0 g') : w_Thought_spread g Q := by
  unfold w_Thought_spread
  refine ⟨((10 - 0 : Int).toNat + 1), k_Thought_spread_l2 (fun g23 I_21 F_22 b_23 => ?_) hQ ((10 - 0 : Int).toNat + 1) I (zk_f0 _) ⟨by omega, by omega⟩ (by first | exact zcTR_0 | assumption) (by omega)⟩
  exact hQ _ I_21 F_22 (by assumption)
-- SpoutNews$Thought.countColour(I)I
set_option maxRecDepth 100000 in
set_option maxHeartbeats 4000000 in
theorem k_Thought_countColour_l4 {g : zi_M} (I : zk_I g) {l1 : Int} {K29 : Int → zi_M → Prop} {Q : Int → zi_M → Prop} (q1 : 0 ≤ l1 ∧ l1 ≤ 29) (hK29 : ∀ (k2 : Int), (0 ≤ k2 ∧ k2 ≤ 10) → (k2 = zqs (fun r => zif (g 184 r = l1) 1 0) 10) → K29 k2 g) (hQ : ∀ v : Int, (0 ≤ v ∧ v ≤ 10) → (v = zqs (fun r => zif (g 184 r = l1) 1 0) 10) → Q v g) : ∀ (n : Nat) {l2 : Int} {l3 : Int}, (0 ≤ l2 ∧ l2 ≤ 10) → (0 ≤ l3 ∧ l3 ≤ 10) → (l2 ≤ l3) → (l2 = zqs (fun r => zif (g 184 r = l1) 1 0) l3.toNat) → 10 - l3 < (n : Int) → w_Thought_countColour_l4 l1 K29 Q n l2 l3 g
  | 0, l2, l3, b0, b1, b2, b3, hm => by exfalso; omega
  | n + 1, l2, l3, b0, b1, b2, b3, hm => by
    unfold w_Thought_countColour_l4
    refine ⟨⟨by omega, by omega⟩, ?_⟩
    refine ⟨fun c6 => ?_, fun c6 => ?_⟩
    · exact hK29 _ ⟨by omega, by omega⟩ (by rw [show (10 : Nat) = l3.toNat by omega]; assumption)
    · refine ⟨⟨by omega, by omega⟩, ?_⟩
      have m_1 : (-1) ≤ (g 184 l3) ∧ (g 184 l3) ≤ 31 := I.1 184 l3
      refine ⟨⟨by omega, by omega⟩, ⟨by omega, by omega⟩, ?_⟩
      refine ⟨fun c5 => ?_, fun c5 => ?_⟩
      · exact k_Thought_countColour_l4 I q1 hK29 hQ n ⟨by omega, by omega⟩ ⟨by omega, by omega⟩ (by omega) (by first | rfl | exact zcc_y (by assumption) (by omega) (by assumption) | exact zcc_n (by assumption) (by omega) (by assumption)) (by omega)
      · exact k_Thought_countColour_l4 I q1 hK29 hQ n ⟨by omega, by omega⟩ ⟨by omega, by omega⟩ (by omega) (by first | rfl | exact zcc_y (by assumption) (by omega) (by assumption) | exact zcc_n (by assumption) (by omega) (by assumption)) (by omega)
set_option maxRecDepth 100000 in
set_option maxHeartbeats 4000000 in
theorem k_Thought_countColour {l1 : Int} {g : zi_M} {Q : Int → zi_M → Prop} (I : zk_I g) (p1 : 0 ≤ l1 ∧ l1 ≤ 29) (hQ : ∀ v : Int, (0 ≤ v ∧ v ≤ 10) → (v = zqs (fun r => zif (g 184 r = l1) 1 0) 10) → Q v g) : w_Thought_countColour l1 g Q := by
  unfold w_Thought_countColour
  refine ⟨((10 - 0 : Int).toNat + 1), k_Thought_countColour_l4 (l1 := l1) I ⟨by omega, by omega⟩ (fun k7 b_2 b_3 => ?_) hQ ((10 - 0 : Int).toNat + 1) ⟨by omega, by omega⟩ ⟨by omega, by omega⟩ (by omega) (by first | rfl | exact zcc_y (by assumption) (by omega) (by assumption) | exact zcc_n (by assumption) (by omega) (by assumption)) (by omega)⟩
  exact hQ _ ⟨by omega, by omega⟩ (by assumption)
-- SpoutNews$Thought.partGroups(LSpoutNews$Told;)V
set_option maxRecDepth 100000 in
set_option maxHeartbeats 4000000 in
theorem k_Thought_partGroups_l20 {K112 : zi_M → Prop} {Q : Int → zi_M → Prop} {g0 : zi_M} (hK112 : ∀ (g : zi_M), zk_I g → zk_fr fr_Thought_partGroups g0 g → (zcM (g0 39) (g0 40) (g0 36 5) (g 180 5) (g 180 6) (g 184)) → K112 g) (hQ : ∀ g' : zi_M, zk_I g' → zk_fr fr_Thought_partGroups g0 g' → (zcO (g0 39) (g0 40) (g0 36 5) (g' 180 5) (g' 180 6)) → Q 0 g') : ∀ (n : Nat) {l2 : Int} {g : zi_M}, zk_I g → zk_fr fr_Thought_partGroups g0 g → (0 ≤ l2 ∧ l2 ≤ 14) → (g 180 5 ≤ l2) → (g 180 6 ≤ 10 * l2) → (zcL (g0 39) (g0 40) (g0 36 5) l2 (g 180 5) (g 180 6) (g 184)) → 14 - l2 < (n : Int) → w_Thought_partGroups_l20 K112 Q n l2 g
  | 0, l2, g, I, F, b0, b1, b2, b3, hm => by exfalso; omega
  | n + 1, l2, g, I, F, b0, b1, b2, b3, hm => by
    unfold w_Thought_partGroups_l20
    have m_10 : 0 ≤ (g 36 5) ∧ (g 36 5) ≤ 14 := I.1 36 5
    refine ⟨⟨by omega, by omega⟩, ⟨by omega, by omega⟩, ?_⟩
    refine ⟨fun c24 => ?_, fun c24 => ?_⟩
    · have m_11 : 0 ≤ (g 180 5) ∧ (g 180 5) ≤ 14 := I.1 180 5
      have m_12 : (-1) ≤ (g 180 6) ∧ (g 180 6) ≤ 140 := I.1 180 6
      exact hK112 _ I F (by exact zcL_mx F (by assumption) (by assumption))
    · refine ⟨⟨by omega, by omega⟩, ?_⟩
      have m_13 : 0 ≤ (g 39 l2) ∧ (g 39 l2) ≤ 9 := I.1 39 l2
      refine ⟨⟨by omega, by omega⟩, ?_⟩
      have m_14 : (-1) ≤ (g 184 (g 39 l2)) ∧ (g 184 (g 39 l2)) ≤ 31 := I.1 184 (g 39 l2)
      refine ⟨⟨by omega, by omega⟩, ?_⟩
      refine ⟨fun c23 => ?_, fun c23 => ?_⟩
      · have m_15 : 0 ≤ (g 180 5) ∧ (g 180 5) ≤ 14 := I.1 180 5
        have m_16 : (-1) ≤ (g 180 6) ∧ (g 180 6) ≤ 140 := I.1 180 6
        exact k_Thought_partGroups_l20 hK112 hQ n I F ⟨by omega, by omega⟩ (by omega) (by omega) (by first | exact zcL_mi F (by assumption) (by assumption) | exact zcL_m (by assumption) F (by assumption) (by omega) (by assumption) (by assumption) (by omega) (by assumption) (by assumption) (by assumption) (by assumption) (by assumption) (by assumption) (by assumption) (by assumption) | exact zcL_m0 I (by assumption) (by assumption) (by assumption)) (by omega)
      · have m_20 : 0 ≤ (g 180 5) ∧ (g 180 5) ≤ 14 := I.1 180 5
        intro g9 e_17
        have I_18 : zk_I g9 := by rw [e_17]; exact zk_upd (L := (-1)) (H := 31) rfl rfl I ⟨by omega, by omega⟩
        have F_19 : zk_fr fr_Thought_partGroups g0 g9 := by rw [e_17]; exact zk_fu F (Or.inl rfl)
        have m_21 : 0 ≤ (g9 36 5) ∧ (g9 36 5) ≤ 14 := I_18.1 36 5
        have m_22 : g9 36 5 = g 36 5 := by rw [e_17]; exact zi_u_ne (by decide)
        refine k_Thought_spread I_18 (fun g11 I_24 F_25 b_23 => ?_)
        have F_26 : zk_fr fr_Thought_partGroups g0 g11 := zk_ft F_19 F_25 (fun a i => (fun h => (Or.inl h)))
        have m_27 : 0 ≤ (g11 180 5) ∧ (g11 180 5) ≤ 14 := I_24.1 180 5
        have m_28 : g11 180 5 = g9 180 5 := F_25 _ _ (by unfold fr_Thought_spread; omega)
        have m_29 : 0 ≤ (g9 180 5) ∧ (g9 180 5) ≤ 14 := I_18.1 180 5
        have m_30 : g9 180 5 = g 180 5 := by rw [e_17]; exact zi_u_ne (by decide)
        refine k_Thought_countColour I_24 ⟨by omega, by omega⟩ (fun v13 b_31 b_32 => ?_)
        refine k_Thought_countColour I_24 ⟨by omega, by omega⟩ (fun v16 b_33 b_34 => ?_)
        refine ⟨⟨by omega, by omega⟩, ⟨by omega, by omega⟩, ?_⟩
        have m_38 : (-1) ≤ (g11 180 6) ∧ (g11 180 6) ≤ 140 := I_24.1 180 6
        have m_39 : g11 180 6 = g9 180 6 := F_25 _ _ (by unfold fr_Thought_spread; omega)
        have m_40 : (-1) ≤ (g9 180 6) ∧ (g9 180 6) ≤ 140 := I_18.1 180 6
        have m_41 : g9 180 6 = g 180 6 := by rw [e_17]; exact zi_u_ne (by decide)
        have m_42 : (-1) ≤ (g 180 6) ∧ (g 180 6) ≤ 140 := I.1 180 6
        intro g21 e_35
        have I_36 : zk_I g21 := by rw [e_35]; exact zk_upd (L := (-1)) (H := 140) rfl rfl I_24 ⟨by omega, by omega⟩
        have F_37 : zk_fr fr_Thought_partGroups g0 g21 := by rw [e_35]; exact zk_fu F_26 (Or.inr (Or.inr ⟨rfl, rfl⟩))
        have m_46 : 0 ≤ (g21 180 5) ∧ (g21 180 5) ≤ 14 := I_36.1 180 5
        have m_47 : g21 180 5 = g11 180 5 := by rw [e_35]; exact zi_u_ni (by decide)
        intro g22 e_43
        have I_44 : zk_I g22 := by rw [e_43]; exact zk_upd (L := 0) (H := 14) rfl rfl I_36 ⟨by omega, by omega⟩
        have F_45 : zk_fr fr_Thought_partGroups g0 g22 := by rw [e_43]; exact zk_fu F_37 (Or.inr (Or.inl ⟨rfl, rfl⟩))
        have m_48 : 0 ≤ (g22 180 5) ∧ (g22 180 5) ≤ 14 := I_44.1 180 5
        have m_49 : g22 180 5 = (g21 180 5) + 1 := by rw [e_43]; exact zi_u_eq
        have m_50 : (-1) ≤ (g22 180 6) ∧ (g22 180 6) ≤ 140 := I_44.1 180 6
        have m_51 : g22 180 6 = g21 180 6 := by rw [e_43]; exact zi_u_ni (by decide)
        have m_52 : (-1) ≤ (g21 180 6) ∧ (g21 180 6) ≤ 140 := I_36.1 180 6
        have m_53 : g21 180 6 = (g11 180 6) + (max v13 v16) := by rw [e_35]; exact zi_u_eq
        exact k_Thought_partGroups_l20 hK112 hQ n I_44 F_45 ⟨by omega, by omega⟩ (by omega) (by omega) (by first | exact zcL_mi F (by assumption) (by assumption) | exact zcL_m (by assumption) F (by assumption) (by omega) (by assumption) (by assumption) (by omega) (by assumption) (by assumption) (by assumption) (by assumption) (by assumption) (by assumption) (by assumption) (by assumption) | exact zcL_m0 I (by assumption) (by assumption) (by assumption)) (by omega)
set_option maxRecDepth 100000 in
set_option maxHeartbeats 4000000 in
theorem k_Thought_partGroups_l114 {K158 : zi_M → Prop} {Q : Int → zi_M → Prop} {g0 : zi_M} (hK158 : ∀ (g : zi_M), zk_I g → zk_fr fr_Thought_partGroups g0 g → (zcO (g0 39) (g0 40) (g0 36 5) (g 180 5) (g 180 6)) → K158 g) (hQ : ∀ g' : zi_M, zk_I g' → zk_fr fr_Thought_partGroups g0 g' → (zcO (g0 39) (g0 40) (g0 36 5) (g' 180 5) (g' 180 6)) → Q 0 g') : ∀ (n : Nat) {l2 : Int} {g : zi_M}, zk_I g → zk_fr fr_Thought_partGroups g0 g → (0 ≤ l2 ∧ l2 ≤ 14) → (zcV (g0 39) (g0 40) (g0 36 5) l2 (g 180 5) (g 180 6) (g 184)) → 14 - l2 < (n : Int) → w_Thought_partGroups_l114 K158 Q n l2 g
  | 0, l2, g, I, F, b0, b1, hm => by exfalso; omega
  | n + 1, l2, g, I, F, b0, b1, hm => by
    unfold w_Thought_partGroups_l114
    have m_57 : 0 ≤ (g 36 5) ∧ (g 36 5) ≤ 14 := I.1 36 5
    refine ⟨⟨by omega, by omega⟩, ⟨by omega, by omega⟩, ?_⟩
    refine ⟨fun c35 => ?_, fun c35 => ?_⟩
    · have m_58 : 0 ≤ (g 180 5) ∧ (g 180 5) ≤ 14 := I.1 180 5
      have m_59 : (-1) ≤ (g 180 6) ∧ (g 180 6) ≤ 140 := I.1 180 6
      exact hK158 _ I F (by exact zcV_mx I F (by assumption) (by assumption))
    · refine ⟨⟨by omega, by omega⟩, ?_⟩
      have m_60 : 0 ≤ (g 39 l2) ∧ (g 39 l2) ≤ 9 := I.1 39 l2
      refine ⟨⟨by omega, by omega⟩, ?_⟩
      have m_61 : 0 ≤ (g 40 l2) ∧ (g 40 l2) ≤ 9 := I.1 40 l2
      refine ⟨⟨by omega, by omega⟩, ?_⟩
      have m_62 : (-1) ≤ (g 184 (g 39 l2)) ∧ (g 184 (g 39 l2)) ≤ 31 := I.1 184 (g 39 l2)
      have m_63 : (-1) ≤ (g 184 (g 40 l2)) ∧ (g 184 (g 40 l2)) ≤ 31 := I.1 184 (g 40 l2)
      refine ⟨⟨by omega, by omega⟩, ⟨by omega, by omega⟩, ?_⟩
      refine ⟨fun c34 => ?_, fun c34 => ?_⟩
      · have m_64 : 0 ≤ (g 180 5) ∧ (g 180 5) ≤ 14 := I.1 180 5
        have m_65 : (-1) ≤ (g 180 6) ∧ (g 180 6) ≤ 140 := I.1 180 6
        exact k_Thought_partGroups_l114 hK158 hQ n I F ⟨by omega, by omega⟩ (by first | exact zcV_mn F (by assumption) (by omega) (by assumption) | exact zcV_my F (by assumption) (by omega) (by assumption) (by assumption) (by assumption) | exact zcV_0 (by assumption)) (by omega)
      · intro g33 e_66
        have I_67 : zk_I g33 := by rw [e_66]; exact zk_upd (L := (-1)) (H := 140) rfl rfl I ⟨by omega, by omega⟩
        have F_68 : zk_fr fr_Thought_partGroups g0 g33 := by rw [e_66]; exact zk_fu F (Or.inr (Or.inr ⟨rfl, rfl⟩))
        have m_69 : 0 ≤ (g33 180 5) ∧ (g33 180 5) ≤ 14 := I_67.1 180 5
        have m_70 : g33 180 5 = g 180 5 := by rw [e_66]; exact zi_u_ni (by decide)
        have m_71 : 0 ≤ (g 180 5) ∧ (g 180 5) ≤ 14 := I.1 180 5
        have m_72 : (-1) ≤ (g33 180 6) ∧ (g33 180 6) ≤ 140 := I_67.1 180 6
        have m_73 : g33 180 6 = (-1) := by rw [e_66]; exact zi_u_eq
        exact k_Thought_partGroups_l114 hK158 hQ n I_67 F_68 ⟨by omega, by omega⟩ (by first | exact zcV_mn F (by assumption) (by omega) (by assumption) | exact zcV_my F (by assumption) (by omega) (by assumption) (by assumption) (by assumption) | exact zcV_0 (by assumption)) (by omega)
set_option maxRecDepth 100000 in
set_option maxHeartbeats 4000000 in
theorem k_Thought_partGroups {g : zi_M} {Q : Int → zi_M → Prop} (I : zk_I g) (hQ : ∀ g' : zi_M, zk_I g' → zk_fr fr_Thought_partGroups g g' → (zcO (g 39) (g 40) (g 36 5) (g' 180 5) (g' 180 6)) → Q 0 g') : w_Thought_partGroups g Q := by
  unfold w_Thought_partGroups
  intro g1 e_1
  have I_2 : zk_I g1 := by rw [e_1]; exact zk_fill (L := (-1)) (H := 31) (fun _ => rfl) (fun _ => rfl) I ⟨by omega, by omega⟩
  have F_3 : zk_fr fr_Thought_partGroups g g1 := by rw [e_1]; exact zk_ff (zk_f0 _) (fun i => (Or.inl rfl))
  intro g2 e_4
  have I_5 : zk_I g2 := by rw [e_4]; exact zk_upd (L := 0) (H := 14) rfl rfl I_2 ⟨by omega, by omega⟩
  have F_6 : zk_fr fr_Thought_partGroups g g2 := by rw [e_4]; exact zk_fu F_3 (Or.inr (Or.inl ⟨rfl, rfl⟩))
  intro g3 e_7
  have I_8 : zk_I g3 := by rw [e_7]; exact zk_upd (L := (-1)) (H := 140) rfl rfl I_5 ⟨by omega, by omega⟩
  have F_9 : zk_fr fr_Thought_partGroups g g3 := by rw [e_7]; exact zk_fu F_6 (Or.inr (Or.inr ⟨rfl, rfl⟩))
  have m_81 : 0 ≤ (g3 180 5) ∧ (g3 180 5) ≤ 14 := I_8.1 180 5
  have m_82 : g3 180 5 = g2 180 5 := by rw [e_7]; exact zi_u_ni (by decide)
  have m_83 : 0 ≤ (g2 180 5) ∧ (g2 180 5) ≤ 14 := I_5.1 180 5
  have m_84 : g2 180 5 = 0 := by rw [e_4]; exact zi_u_eq
  have m_85 : (-1) ≤ (g3 180 6) ∧ (g3 180 6) ≤ 140 := I_8.1 180 6
  have m_86 : g3 180 6 = 0 := by rw [e_7]; exact zi_u_eq
  refine ⟨((14 - 0 : Int).toNat + 1), k_Thought_partGroups_l20 (fun g25 I_54 F_55 b_56 => ?_) hQ ((14 - 0 : Int).toNat + 1) I_8 F_9 ⟨by omega, by omega⟩ (by omega) (by omega) (by first | exact zcL_mi F (by assumption) (by assumption) | exact zcL_m (by assumption) F (by assumption) (by omega) (by assumption) (by assumption) (by omega) (by assumption) (by assumption) (by assumption) (by assumption) (by assumption) (by assumption) (by assumption) (by assumption) | exact zcL_m0 I (by assumption) (by assumption) (by assumption)) (by omega)⟩
  have m_79 : 0 ≤ (g25 180 5) ∧ (g25 180 5) ≤ 14 := I_54.1 180 5
  have m_80 : (-1) ≤ (g25 180 6) ∧ (g25 180 6) ≤ 140 := I_54.1 180 6
  refine ⟨((14 - 0 : Int).toNat + 1), k_Thought_partGroups_l114 (fun g36 I_74 F_75 b_76 => ?_) hQ ((14 - 0 : Int).toNat + 1) I_54 F_55 ⟨by omega, by omega⟩ (by first | exact zcV_mn F (by assumption) (by omega) (by assumption) | exact zcV_my F (by assumption) (by omega) (by assumption) (by assumption) (by assumption) | exact zcV_0 (by assumption)) (by omega)⟩
  have m_77 : 0 ≤ (g36 180 5) ∧ (g36 180 5) ≤ 14 := I_74.1 180 5
  have m_78 : (-1) ≤ (g36 180 6) ∧ (g36 180 6) ≤ 140 := I_74.1 180 6
  exact hQ _ I_74 F_75 (by assumption)
