-- by program (wip/gen/mkz.py)
-- SpoutNewsModel.isFirstTold(I)Z
set_option maxRecDepth 100000 in
set_option maxHeartbeats 400000 in
theorem k_M_isFirstTold_l2 {g : zi_M} (I : zk_I g) {l1 : Int} {K22 : zi_M → Prop} {K30 : zi_M → Prop} {Q : Int → zi_M → Prop} (q1 : 0 ≤ l1 ∧ l1 ≤ 11) (hK22 : K22 g) (hK30 : K30 g) (hQ : ∀ v : Int, (0 ≤ v ∧ v ≤ 1) → Q v g) : ∀ (n : Nat) {l2 : Int}, (0 ≤ l2 ∧ l2 ≤ 11) → 11 - l2 < (n : Int) → w_M_isFirstTold_l2 l1 K22 K30 Q n l2 g
  | 0, l2, b0, hm => by exfalso; omega
  | n + 1, l2, b0, hm => by
    unfold w_M_isFirstTold_l2
    refine ⟨⟨by omega, by omega⟩, ⟨by omega, by omega⟩, ?_⟩
    refine ⟨fun c8 => ?_, fun c8 => ?_⟩
    · exact hK30
    · refine ⟨⟨by omega, by omega⟩, ?_⟩
      refine ⟨⟨by omega, by omega⟩, ?_⟩
      have m_1 : 0 ≤ (g 240 l2) ∧ (g 240 l2) ≤ 79 := I 240 l2
      have m_2 : 0 ≤ (g 240 l1) ∧ (g 240 l1) ≤ 79 := I 240 l1
      refine ⟨⟨by omega, by omega⟩, ⟨by omega, by omega⟩, ?_⟩
      refine ⟨fun c7 => ?_, fun c7 => ?_⟩
      · exact k_M_isFirstTold_l2 I q1 hK22 hK30 hQ n ⟨by omega, by omega⟩ (by omega)
      · exact hK22
set_option maxRecDepth 100000 in
set_option maxHeartbeats 400000 in
theorem k_M_isFirstTold {l1 : Int} {g : zi_M} {Q : Int → zi_M → Prop} (I : zk_I g) (p1 : 0 ≤ l1 ∧ l1 ≤ 11) (hQ : ∀ v : Int, (0 ≤ v ∧ v ≤ 1) → Q v g) : w_M_isFirstTold l1 g Q := by
  unfold w_M_isFirstTold
  refine ⟨((11 - 0 : Int).toNat + 1), k_M_isFirstTold_l2 (l1 := l1) I ⟨by omega, by omega⟩ (?_) (?_) hQ ((11 - 0 : Int).toNat + 1) ⟨by omega, by omega⟩ (by omega)⟩
  · exact hQ _ ⟨by omega, by omega⟩
  · exact hQ _ ⟨by omega, by omega⟩
-- SpoutNewsModel.greater(II)I
set_option maxRecDepth 100000 in
set_option maxHeartbeats 400000 in
theorem k_M_greater {l1 : Int} {l2 : Int} {g : zi_M} {Q : Int → zi_M → Prop} (I : zk_I g) (p1 : (-2147483648) ≤ l1 ∧ l1 ≤ 2147483647) (p2 : (-2147483648) ≤ l2 ∧ l2 ≤ 2147483647) (hQ : ∀ v : Int, (l1 ≤ l2 → v = l2) → (l2 < l1 → v = l1) → Q v g) : w_M_greater l1 l2 g Q := by
  unfold w_M_greater
  refine ⟨⟨by omega, by omega⟩, ⟨by omega, by omega⟩, ?_⟩
  refine ⟨fun c3 => ?_, fun c3 => ?_⟩
  · exact hQ _ (by intros; omega) (by intros; omega)
  · exact hQ _ (by intros; omega) (by intros; omega)
-- SpoutNewsModel.askedBest()I
def fr_M_askedBest (a : Nat) (i : Int) : Prop := a = 241
set_option maxRecDepth 100000 in
set_option maxHeartbeats 400000 in
theorem k_M_askedBest_l32 {l3 : Int} {K79 : Int → zi_M → Prop} {Q : Int → zi_M → Prop} {g0 : zi_M} (q3 : 0 ≤ l3 ∧ l3 ≤ 7) (hK79 : ∀ (k4 : Int) (g : zi_M), zk_I g → zk_fr fr_M_askedBest g0 g → ((-2147483648) ≤ k4 ∧ k4 ≤ 2147483647) → K79 k4 g) (hQ : ∀ (v : Int) (g' : zi_M), zk_I g' → zk_fr fr_M_askedBest g0 g' → ((-1) ≤ v ∧ v ≤ 7) → Q v g') : ∀ (n : Nat) {l4 : Int} {l5 : Int} {g : zi_M}, zk_I g → zk_fr fr_M_askedBest g0 g → ((-2147483648) ≤ l4 ∧ l4 ≤ 2147483647) → (0 ≤ l5 ∧ l5 ≤ 10) → 10 - l5 < (n : Int) → w_M_askedBest_l32 l3 K79 Q n l4 l5 g
  | 0, l4, l5, g, I, F, b0, b1, hm => by exfalso; omega
  | n + 1, l4, l5, g, I, F, b0, b1, hm => by
    unfold w_M_askedBest_l32
    refine ⟨⟨by omega, by omega⟩, ?_⟩
    refine ⟨fun c16 => ?_, fun c16 => ?_⟩
    · exact hK79 _ _ I F ⟨by omega, by omega⟩
    · refine ⟨⟨by omega, by omega⟩, ?_⟩
      have m_2 : 0 ≤ (g 239 l3) ∧ (g 239 l3) ≤ 1023 := I 239 l3
      have m_5 := zi_shr_f ((g 239 l3)) (l5)
      have m_6 := zi_and_f (zi_shr (g 239 l3) l5) 1
      refine k_M_has I ⟨by omega, by omega⟩ ⟨by omega, by omega⟩ (fun v6 b_3 b_4 => ?_)
      refine ⟨fun c15 => ?_, fun c15 => ?_⟩
      · exact k_M_askedBest_l32 q3 hK79 hQ n I F ⟨by omega, by omega⟩ ⟨by omega, by omega⟩ (by omega)
      · refine k_M_waysWith I (by omega) (fun v9 g10 I_8 F_9 b_7 => ?_)
        have F_10 : zk_fr fr_M_askedBest g0 g10 := zk_ft F F_9 (fun a i => (fun h => h))
        refine k_M_greater I_8 ⟨by omega, by omega⟩ ⟨by omega, by omega⟩ (fun v12 b_11 b_12 => ?_)
        exact k_M_askedBest_l32 q3 hK79 hQ n I_8 F_10 ⟨by omega, by omega⟩ ⟨by omega, by omega⟩ (by omega)
set_option maxRecDepth 100000 in
set_option maxHeartbeats 400000 in
theorem k_M_askedBest_l8 {K105 : Int → zi_M → Prop} {Q : Int → zi_M → Prop} {g0 : zi_M} (hK105 : ∀ (k1 : Int) (g : zi_M), zk_I g → zk_fr fr_M_askedBest g0 g → ((-1) ≤ k1 ∧ k1 ≤ 7) → K105 k1 g) (hQ : ∀ (v : Int) (g' : zi_M), zk_I g' → zk_fr fr_M_askedBest g0 g' → ((-1) ≤ v ∧ v ≤ 7) → Q v g') : ∀ (n : Nat) {l1 : Int} {l2 : Int} {l3 : Int} {g : zi_M}, zk_I g → zk_fr fr_M_askedBest g0 g → ((-1) ≤ l1 ∧ l1 ≤ 7) → ((-2147483648) ≤ l2 ∧ l2 ≤ 2147483647) → (0 ≤ l3 ∧ l3 ≤ 8) → 8 - l3 < (n : Int) → w_M_askedBest_l8 K105 Q n l1 l2 l3 g
  | 0, l1, l2, l3, g, I, F, b0, b1, b2, hm => by exfalso; omega
  | n + 1, l1, l2, l3, g, I, F, b0, b1, b2, hm => by
    unfold w_M_askedBest_l8
    refine ⟨⟨by omega, by omega⟩, ?_⟩
    refine ⟨fun c30 => ?_, fun c30 => ?_⟩
    · exact hK105 _ _ I F ⟨by omega, by omega⟩
    · refine ⟨⟨by omega, by omega⟩, ?_⟩
      have m_1 : 0 ≤ (g 239 l3) ∧ (g 239 l3) ≤ 1023 := I 239 l3
      refine ⟨⟨by omega, by omega⟩, ?_⟩
      refine ⟨fun c29 => ?_, fun c29 => ?_⟩
      · refine ⟨((10 - 0 : Int).toNat + 1), k_M_askedBest_l32 (l3 := l3) ⟨by omega, by omega⟩ (fun k17 g18 I_13 F_14 b_15 => ?_) hQ ((10 - 0 : Int).toNat + 1) I F ⟨by omega, by omega⟩ ⟨by omega, by omega⟩ (by omega)⟩
        refine ⟨⟨by omega, by omega⟩, ⟨by omega, by omega⟩, ?_⟩
        refine ⟨fun c27 => ?_, fun c27 => ?_⟩
        · refine k_M_lesser I_13 ⟨by omega, by omega⟩ ⟨by omega, by omega⟩ (fun v21 b_16 b_17 => ?_)
          exact k_M_askedBest_l8 hK105 hQ n I_13 F_14 ⟨by omega, by omega⟩ ⟨by omega, by omega⟩ ⟨by omega, by omega⟩ (by omega)
        · refine k_M_lesser I_13 ⟨by omega, by omega⟩ ⟨by omega, by omega⟩ (fun v24 b_18 b_19 => ?_)
          exact k_M_askedBest_l8 hK105 hQ n I_13 F_14 ⟨by omega, by omega⟩ ⟨by omega, by omega⟩ ⟨by omega, by omega⟩ (by omega)
      · exact k_M_askedBest_l8 hK105 hQ n I F ⟨by omega, by omega⟩ ⟨by omega, by omega⟩ ⟨by omega, by omega⟩ (by omega)
set_option maxRecDepth 100000 in
set_option maxHeartbeats 400000 in
theorem k_M_askedBest {g : zi_M} {Q : Int → zi_M → Prop} (I : zk_I g) (hQ : ∀ (v : Int) (g' : zi_M), zk_I g' → zk_fr fr_M_askedBest g g' → ((-1) ≤ v ∧ v ≤ 7) → Q v g') : w_M_askedBest g Q := by
  unfold w_M_askedBest
  refine ⟨((8 - 0 : Int).toNat + 1), k_M_askedBest_l8 (fun k31 g32 I_20 F_21 b_22 => ?_) hQ ((8 - 0 : Int).toNat + 1) I (zk_f0 _) ⟨by omega, by omega⟩ ⟨by omega, by omega⟩ ⟨by omega, by omega⟩ (by omega)⟩
  exact hQ _ _ I_20 F_21 ⟨by omega, by omega⟩
-- SpoutNewsModel.ways(I)I
def fr_M_ways (a : Nat) (i : Int) : Prop := a = 241 ∨ (a = 214 ∧ i = 0)
set_option maxRecDepth 100000 in
set_option maxHeartbeats 400000 in
theorem k_M_ways_l44 {l2 : Int} {K91 : Int → zi_M → Prop} {Q : Int → zi_M → Prop} {g0 : zi_M} (q2 : (-2147483648) ≤ l2 ∧ l2 ≤ 2147483647) (hK91 : ∀ (k3 : Int) (g : zi_M), zk_I g → zk_fr fr_M_ways g0 g → (0 ≤ k3) → K91 k3 g) (hQ : ∀ (v : Int) (g' : zi_M), zk_I g' → zk_fr fr_M_ways g0 g' → ((-2147483648) ≤ v) → Q v g') : ∀ (n : Nat) {l3 : Int} {l4 : Int} {g : zi_M}, zk_I g → zk_fr fr_M_ways g0 g → (0 ≤ l3) → (0 ≤ l4 ∧ l4 ≤ 12) → 12 - l4 < (n : Int) → w_M_ways_l44 l2 K91 Q n l3 l4 g
  | 0, l3, l4, g, I, F, b0, b1, hm => by exfalso; omega
  | n + 1, l3, l4, g, I, F, b0, b1, hm => by
    unfold w_M_ways_l44
    have m_11 : 0 ≤ (g 214 46) ∧ (g 214 46) ≤ 12 := I 214 46
    refine ⟨⟨by omega, by omega⟩, ⟨by omega, by omega⟩, ?_⟩
    refine ⟨fun c23 => ?_, fun c23 => ?_⟩
    · exact hK91 _ _ I F (by omega)
    · refine ⟨⟨by omega, by omega⟩, ?_⟩
      refine ⟨fun c22 => ?_, fun c22 => ?_⟩
      · exact hK91 _ _ I F (by omega)
      · refine k_M_isFirstTold I ⟨by omega, by omega⟩ (fun v12 b_12 => ?_)
        refine ⟨fun c21 => ?_, fun c21 => ?_⟩
        · exact k_M_ways_l44 q2 hK91 hQ n I F (by omega) ⟨by omega, by omega⟩ (by omega)
        · refine ⟨⟨by omega, by omega⟩, ?_⟩
          have m_13 : 0 ≤ (g 240 l4) ∧ (g 240 l4) ≤ 79 := I 240 l4
          refine k_M_waysWith I (by omega) (fun v16 g17 I_15 F_16 b_14 => ?_)
          have F_17 : zk_fr fr_M_ways g0 g17 := zk_ft F F_16 (fun a i => (fun h => (Or.inl h)))
          refine ⟨⟨by omega, by omega⟩, ?_⟩
          refine ⟨fun c20 => ?_, fun c20 => ?_⟩
          · exact k_M_ways_l44 q2 hK91 hQ n I_15 F_17 (by omega) ⟨by omega, by omega⟩ (by omega)
          · exact k_M_ways_l44 q2 hK91 hQ n I_15 F_17 (by omega) ⟨by omega, by omega⟩ (by omega)
set_option maxRecDepth 100000 in
set_option maxHeartbeats 400000 in
theorem k_M_ways {l1 : Int} {g : zi_M} {Q : Int → zi_M → Prop} (I : zk_I g) (p1 : (-2147483648) ≤ l1 ∧ l1 ≤ 2147483647) (hQ : ∀ (v : Int) (g' : zi_M), zk_I g' → zk_fr fr_M_ways g g' → ((-2147483648) ≤ v) → Q v g') : w_M_ways l1 g Q := by
  unfold w_M_ways
  intro g1 e_1
  have I_2 : zk_I g1 := by rw [e_1]; exact zk_upd (L := (-2147483648)) (H := 2147483647) rfl rfl I ⟨by omega, by omega⟩
  have F_3 : zk_fr fr_M_ways g g1 := by rw [e_1]; exact zk_fu (zk_f0 _) (Or.inr ⟨rfl, rfl⟩)
  refine k_M_isIn I_2 ⟨by omega, by omega⟩ ⟨by omega, by omega⟩ ⟨by omega, by omega⟩ (fun v2 b_4 b_5 b_6 => ?_)
  refine ⟨fun c32 => ?_, fun c32 => ?_⟩
  · refine ⟨⟨by omega, by omega⟩, ?_⟩
    refine ⟨fun c31 => ?_, fun c31 => ?_⟩
    · refine k_M_waysWith I_2 (by omega) (fun v6 g7 I_8 F_9 b_7 => ?_)
      have F_10 : zk_fr fr_M_ways g g7 := zk_ft F_3 F_9 (fun a i => (fun h => (Or.inl h)))
      refine ⟨fun c27 => ?_, fun c27 => ?_⟩
      · refine ⟨((12 - 0 : Int).toNat + 1), k_M_ways_l44 (l2 := v6) ⟨by omega, by omega⟩ (fun k24 g25 I_18 F_19 b_20 => ?_) hQ ((12 - 0 : Int).toNat + 1) I_8 F_10 (by omega) ⟨by omega, by omega⟩ (by omega)⟩
        exact hQ _ _ I_18 F_19 (by omega)
      · exact hQ _ _ I_8 F_10 (by omega)
    · refine k_M_askedBest I_2 (fun v28 g29 I_22 F_23 b_21 => ?_)
      have F_24 : zk_fr fr_M_ways g g29 := zk_ft F_3 F_23 (fun a i => (fun h => (Or.inl h)))
      exact hQ _ _ I_22 F_24 (by omega)
  · exact hQ _ _ I_2 F_3 (by omega)
-- SpoutNews.quarrel(II)I
def fr_S_quarrel (a : Nat) (i : Int) : Prop := a = 39 ∨ a = 40 ∨ (a = 36 ∧ i = 5)
set_option maxRecDepth 100000 in
set_option maxHeartbeats 400000 in
theorem k_S_quarrel {l1 : Int} {l2 : Int} {g : zi_M} {Q : Int → zi_M → Prop} (I : zk_I g) (p1 : (-2147483648) ≤ l1 ∧ l1 ≤ 2147483647) (p2 : (-2147483648) ≤ l2 ∧ l2 ≤ 2147483647) (hQ : ∀ (v : Int) (g' : zi_M), zk_I g' → zk_fr fr_S_quarrel g g' → ((-1) ≤ v ∧ v ≤ 14) → Q v g') : w_S_quarrel l1 l2 g Q := by
  unfold w_S_quarrel
  refine ⟨⟨by omega, by omega⟩, ?_⟩
  refine ⟨fun c16 => ?_, fun c16 => ?_⟩
  · refine ⟨fun c14 => ?_, fun c14 => ?_⟩
    · exact hQ _ _ I (zk_f0 _) ⟨by omega, by omega⟩
    · refine ⟨fun c13 => ?_, fun c13 => ?_⟩
      · exact hQ _ _ I (zk_f0 _) ⟨by omega, by omega⟩
      · refine ⟨⟨by omega, by omega⟩, ?_⟩
        refine ⟨fun c12 => ?_, fun c12 => ?_⟩
        · exact hQ _ _ I (zk_f0 _) ⟨by omega, by omega⟩
        · refine ⟨fun c11 => ?_, fun c11 => ?_⟩
          · exact hQ _ _ I (zk_f0 _) ⟨by omega, by omega⟩
          · refine ⟨fun c10 => ?_, fun c10 => ?_⟩
            · exact hQ _ _ I (zk_f0 _) ⟨by omega, by omega⟩
            · have m_1 : 0 ≤ (g 36 5) ∧ (g 36 5) ≤ 14 := I 36 5
              refine ⟨⟨by omega, by omega⟩, ?_⟩
              refine ⟨fun c9 => ?_, fun c9 => ?_⟩
              · refine ⟨⟨by omega, by omega⟩, ?_⟩
                intro g5 e_2
                have I_3 : zk_I g5 := by rw [e_2]; exact zk_upd (L := 0) (H := 9) rfl rfl I ⟨by omega, by omega⟩
                have F_4 : zk_fr fr_S_quarrel g g5 := by rw [e_2]; exact zk_fu (zk_f0 _) (Or.inl rfl)
                have m_8 : 0 ≤ (g5 36 5) ∧ (g5 36 5) ≤ 14 := I_3 36 5
                have m_9 : g5 36 5 = g 36 5 := by rw [e_2]; exact zi_u_ne (by decide)
                refine ⟨⟨by omega, by omega⟩, ?_⟩
                intro g7 e_5
                have I_6 : zk_I g7 := by rw [e_5]; exact zk_upd (L := 0) (H := 9) rfl rfl I_3 ⟨by omega, by omega⟩
                have F_7 : zk_fr fr_S_quarrel g g7 := by rw [e_5]; exact zk_fu F_4 (Or.inr (Or.inl rfl))
                have m_13 : 0 ≤ (g7 36 5) ∧ (g7 36 5) ≤ 14 := I_6 36 5
                have m_14 : g7 36 5 = g5 36 5 := by rw [e_5]; exact zi_u_ne (by decide)
                intro g8 e_10
                have I_11 : zk_I g8 := by rw [e_10]; exact zk_upd (L := 0) (H := 14) rfl rfl I_6 ⟨by omega, by omega⟩
                have F_12 : zk_fr fr_S_quarrel g g8 := by rw [e_10]; exact zk_fu F_7 (Or.inr (Or.inr ⟨rfl, rfl⟩))
                have m_15 : 0 ≤ (g8 36 5) ∧ (g8 36 5) ≤ 14 := I_11 36 5
                have m_16 : g8 36 5 = (g7 36 5) + 1 := by rw [e_10]; exact zi_u_eq
                exact hQ _ _ I_11 F_12 ⟨by omega, by omega⟩
              · exact hQ _ _ I (zk_f0 _) ⟨by omega, by omega⟩
  · intro g15 e_17
    have I_18 : zk_I g15 := by rw [e_17]; exact zk_upd (L := 0) (H := 14) rfl rfl I ⟨by omega, by omega⟩
    have F_19 : zk_fr fr_S_quarrel g g15 := by rw [e_17]; exact zk_fu (zk_f0 _) (Or.inr (Or.inr ⟨rfl, rfl⟩))
    exact hQ _ _ I_18 F_19 ⟨by omega, by omega⟩
-- SpoutNewsModel.quarrel(II)I
def fr_M_quarrel (a : Nat) (i : Int) : Prop := a = 242 ∨ (a = 214 ∧ i = 0) ∨ (a = 214 ∧ i = 50)
set_option maxRecDepth 100000 in
set_option maxHeartbeats 400000 in
theorem k_M_quarrel {l1 : Int} {l2 : Int} {g : zi_M} {Q : Int → zi_M → Prop} (I : zk_I g) (p1 : (-2147483648) ≤ l1 ∧ l1 ≤ 2147483647) (p2 : (-2147483648) ≤ l2 ∧ l2 ≤ 2147483647) (hQ : ∀ (v : Int) (g' : zi_M), zk_I g' → zk_fr fr_M_quarrel g g' → ((-1) ≤ v ∧ v ≤ 14) → Q v g') : w_M_quarrel l1 l2 g Q := by
  sorry
-- SpoutNews$Thought.spread(LSpoutNews$Told;)V
def fr_Thought_spread (a : Nat) (i : Int) : Prop := a = 184
set_option maxRecDepth 100000 in
set_option maxHeartbeats 400000 in
theorem k_Thought_spread {g : zi_M} {Q : Int → zi_M → Prop} (I : zk_I g) (hQ : ∀ g' : zi_M, zk_I g' → zk_fr fr_Thought_spread g g' → Q 0 g') : w_Thought_spread g Q := by
  sorry
-- SpoutNews$Thought.countColour(I)I
set_option maxRecDepth 100000 in
set_option maxHeartbeats 400000 in
theorem k_Thought_countColour_l4 {g : zi_M} (I : zk_I g) {l1 : Int} {K29 : Int → zi_M → Prop} {Q : Int → zi_M → Prop} (q1 : 0 ≤ l1 ∧ l1 ≤ 29) (hK29 : ∀ (k2 : Int), (0 ≤ k2) → K29 k2 g) (hQ : ∀ v : Int, (0 ≤ v) → Q v g) : ∀ (n : Nat) {l2 : Int} {l3 : Int}, (0 ≤ l2) → (0 ≤ l3 ∧ l3 ≤ 10) → 10 - l3 < (n : Int) → w_Thought_countColour_l4 l1 K29 Q n l2 l3 g
  | 0, l2, l3, b0, b1, hm => by exfalso; omega
  | n + 1, l2, l3, b0, b1, hm => by
    unfold w_Thought_countColour_l4
    refine ⟨⟨by omega, by omega⟩, ?_⟩
    refine ⟨fun c6 => ?_, fun c6 => ?_⟩
    · exact hK29 _ (by omega)
    · refine ⟨⟨by omega, by omega⟩, ?_⟩
      have m_1 : (-1) ≤ (g 184 l3) ∧ (g 184 l3) ≤ 28 := I 184 l3
      refine ⟨⟨by omega, by omega⟩, ⟨by omega, by omega⟩, ?_⟩
      refine ⟨fun c5 => ?_, fun c5 => ?_⟩
      · exact k_Thought_countColour_l4 I q1 hK29 hQ n (by omega) ⟨by omega, by omega⟩ (by omega)
      · exact k_Thought_countColour_l4 I q1 hK29 hQ n (by omega) ⟨by omega, by omega⟩ (by omega)
set_option maxRecDepth 100000 in
set_option maxHeartbeats 400000 in
theorem k_Thought_countColour {l1 : Int} {g : zi_M} {Q : Int → zi_M → Prop} (I : zk_I g) (p1 : 0 ≤ l1 ∧ l1 ≤ 29) (hQ : ∀ v : Int, (0 ≤ v) → Q v g) : w_Thought_countColour l1 g Q := by
  unfold w_Thought_countColour
  refine ⟨((10 - 0 : Int).toNat + 1), k_Thought_countColour_l4 (l1 := l1) I ⟨by omega, by omega⟩ (fun k7 b_2 => ?_) hQ ((10 - 0 : Int).toNat + 1) (by omega) ⟨by omega, by omega⟩ (by omega)⟩
  exact hQ _ (by omega)
-- SpoutNews$Thought.partGroups(LSpoutNews$Told;)V
def fr_Thought_partGroups (a : Nat) (i : Int) : Prop := a = 184 ∨ (a = 180 ∧ i = 5) ∨ (a = 180 ∧ i = 6)
set_option maxRecDepth 100000 in
set_option maxHeartbeats 400000 in
theorem k_Thought_partGroups {g : zi_M} {Q : Int → zi_M → Prop} (I : zk_I g) (hQ : ∀ g' : zi_M, zk_I g' → zk_fr fr_Thought_partGroups g g' → Q 0 g') : w_Thought_partGroups g Q := by
  sorry
-- SpoutNews.parts(I)I
def fr_S_parts (a : Nat) (i : Int) : Prop := a = 184 ∨ (a = 180 ∧ i = 5) ∨ (a = 180 ∧ i = 6)
set_option maxRecDepth 100000 in
set_option maxHeartbeats 400000 in
theorem k_S_parts_b11 {l1 : Int} {Q : Int → zi_M → Prop} {g : zi_M} {g0 : zi_M} (I : zk_I g) (F : zk_fr fr_S_parts g0 g) (p1 : 0 ≤ l1 ∧ l1 ≤ 1) (hQ : ∀ (v : Int) (g' : zi_M), zk_I g' → zk_fr fr_S_parts g0 g' → ((-1) ≤ v ∧ v ≤ 140) → Q v g') : w_S_parts_b11 l1 g Q := by
  unfold w_S_parts_b11
  refine k_Thought_partGroups I (fun g3 I_1 F_2 => ?_)
  have F_3 : zk_fr fr_S_parts g0 g3 := zk_ft F F_2 (fun a i => (fun h => Or.elim h (fun h => (Or.inl h)) (fun h => Or.elim h (fun h => (Or.inr (Or.inl h))) (fun h => (Or.inr (Or.inr h))))))
  refine ⟨⟨by omega, by omega⟩, ?_⟩
  refine ⟨fun c6 => ?_, fun c6 => ?_⟩
  · have m_4 : 0 ≤ (g3 180 5) ∧ (g3 180 5) ≤ 14 := I_1 180 5
    exact hQ _ _ I_1 F_3 ⟨by omega, by omega⟩
  · have m_5 : (-1) ≤ (g3 180 6) ∧ (g3 180 6) ≤ 140 := I_1 180 6
    exact hQ _ _ I_1 F_3 ⟨by omega, by omega⟩
set_option maxRecDepth 100000 in
set_option maxHeartbeats 400000 in
theorem k_S_parts {l1 : Int} {g : zi_M} {Q : Int → zi_M → Prop} (I : zk_I g) (p1 : (-2147483648) ≤ l1 ∧ l1 ≤ 2147483647) (hQ : ∀ (v : Int) (g' : zi_M), zk_I g' → zk_fr fr_S_parts g g' → ((-1) ≤ v ∧ v ≤ 140) → Q v g') : w_S_parts l1 g Q := by
  unfold w_S_parts
  refine ⟨⟨by omega, by omega⟩, ?_⟩
  refine ⟨fun c8 => ?_, fun c8 => ?_⟩
  · exact k_S_parts_b11 I (zk_f0 _) ⟨by omega, by omega⟩ hQ
  · refine ⟨fun c7 => ?_, fun c7 => ?_⟩
    · exact k_S_parts_b11 I (zk_f0 _) ⟨by omega, by omega⟩ hQ
    · exact hQ _ _ I (zk_f0 _) ⟨by omega, by omega⟩
-- SpoutNewsModel.besideAll(I)I
set_option maxRecDepth 100000 in
set_option maxHeartbeats 400000 in
theorem k_M_besideAll_l4 {g : zi_M} (I : zk_I g) {l1 : Int} {K34 : Int → zi_M → Prop} {Q : Int → zi_M → Prop} (q1 : 0 ≤ l1 ∧ l1 ≤ 1023) (hK34 : ∀ (k2 : Int), (0 ≤ k2 ∧ k2 ≤ 1023) → K34 k2 g) (hQ : ∀ v : Int, (0 ≤ v ∧ v ≤ 1023) → Q v g) : ∀ (n : Nat) {l2 : Int} {l3 : Int}, (0 ≤ l2 ∧ l2 ≤ 1023) → (0 ≤ l3 ∧ l3 ≤ 10) → 10 - l3 < (n : Int) → w_M_besideAll_l4 l1 K34 Q n l2 l3 g
  | 0, l2, l3, b0, b1, hm => by exfalso; omega
  | n + 1, l2, l3, b0, b1, hm => by
    unfold w_M_besideAll_l4
    refine ⟨⟨by omega, by omega⟩, ?_⟩
    refine ⟨fun c7 => ?_, fun c7 => ?_⟩
    · exact hK34 _ ⟨by omega, by omega⟩
    · have m_3 := zi_shr_f (l1) (l3)
      have m_4 := zi_and_f (zi_shr l1 l3) 1
      refine k_M_has I ⟨by omega, by omega⟩ ⟨by omega, by omega⟩ (fun v2 b_1 b_2 => ?_)
      refine ⟨fun c6 => ?_, fun c6 => ?_⟩
      · exact k_M_besideAll_l4 I q1 hK34 hQ n ⟨by omega, by omega⟩ ⟨by omega, by omega⟩ (by omega)
      · refine ⟨⟨by omega, by omega⟩, ?_⟩
        have m_5 : 0 ≤ (g 242 l3) ∧ (g 242 l3) ≤ 1023 := I 242 l3
        have m_6 := zi_or_f l2 (g 242 l3)
        exact k_M_besideAll_l4 I q1 hK34 hQ n ⟨by omega, by omega⟩ ⟨by omega, by omega⟩ (by omega)
set_option maxRecDepth 100000 in
set_option maxHeartbeats 400000 in
theorem k_M_besideAll {l1 : Int} {g : zi_M} {Q : Int → zi_M → Prop} (I : zk_I g) (p1 : 0 ≤ l1 ∧ l1 ≤ 1023) (hQ : ∀ v : Int, (0 ≤ v ∧ v ≤ 1023) → Q v g) : w_M_besideAll l1 g Q := by
  unfold w_M_besideAll
  refine ⟨((10 - 0 : Int).toNat + 1), k_M_besideAll_l4 (l1 := l1) I ⟨by omega, by omega⟩ (fun k8 b_7 => ?_) hQ ((10 - 0 : Int).toNat + 1) ⟨by omega, by omega⟩ ⟨by omega, by omega⟩ (by omega)⟩
  exact hQ _ ⟨by omega, by omega⟩
-- SpoutNewsModel.sideFrom(IZ)I
set_option maxRecDepth 100000 in
set_option maxHeartbeats 400000 in
theorem k_M_sideFrom_l10 {g : zi_M} (I : zk_I g) {K42 : Int → Int → zi_M → Prop} {Q : Int → zi_M → Prop} (hK42 : ∀ (k3 : Int) (k4 : Int), (0 ≤ k3 ∧ k3 ≤ 1023) → (0 ≤ k4 ∧ k4 ≤ 1023) → K42 k3 k4 g) (hQ : ∀ v : Int, (0 ≤ v ∧ v ≤ 1023) → Q v g) : ∀ (n : Nat) {l3 : Int} {l4 : Int} {l5 : Int}, (0 ≤ l3 ∧ l3 ≤ 1023) → (0 ≤ l4 ∧ l4 ≤ 1023) → (0 ≤ l5 ∧ l5 ≤ 10) → 10 - l5 < (n : Int) → w_M_sideFrom_l10 K42 Q n l3 l4 l5 g
  | 0, l3, l4, l5, b0, b1, b2, hm => by exfalso; omega
  | n + 1, l3, l4, l5, b0, b1, b2, hm => by
    unfold w_M_sideFrom_l10
    refine ⟨⟨by omega, by omega⟩, ?_⟩
    refine ⟨fun c8 => ?_, fun c8 => ?_⟩
    · exact hK42 _ _ ⟨by omega, by omega⟩ ⟨by omega, by omega⟩
    · refine k_M_besideAll I ⟨by omega, by omega⟩ (fun v2 b_1 => ?_)
      have m_2 := zi_or_f l4 v2
      refine k_M_besideAll I ⟨by omega, by omega⟩ (fun v5 b_3 => ?_)
      have m_4 := zi_or_f l3 v5
      exact k_M_sideFrom_l10 I hK42 hQ n ⟨by omega, by omega⟩ ⟨by omega, by omega⟩ ⟨by omega, by omega⟩ (by omega)
set_option maxRecDepth 100000 in
set_option maxHeartbeats 400000 in
theorem k_M_sideFrom {l1 : Int} {l2 : Int} {g : zi_M} {Q : Int → zi_M → Prop} (I : zk_I g) (p1 : 0 ≤ l1 ∧ l1 ≤ 9) (p2 : 0 ≤ l2 ∧ l2 ≤ 1) (hQ : ∀ v : Int, (0 ≤ v ∧ v ≤ 1023) → Q v g) : w_M_sideFrom l1 l2 g Q := by
  unfold w_M_sideFrom
  have m_7 := zi_shl_f l1
  refine ⟨((10 - 0 : Int).toNat + 1), k_M_sideFrom_l10 I (fun k9 k10 b_5 b_6 => ?_) hQ ((10 - 0 : Int).toNat + 1) ⟨by omega, by omega⟩ ⟨by omega, by omega⟩ ⟨by omega, by omega⟩ (by omega)⟩
  refine ⟨⟨by omega, by omega⟩, ?_⟩
  refine ⟨fun c13 => ?_, fun c13 => ?_⟩
  · exact hQ _ ⟨by omega, by omega⟩
  · exact hQ _ ⟨by omega, by omega⟩
-- SpoutNewsModel.parts(I)I
def fr_M_parts (a : Nat) (i : Int) : Prop := (a = 214 ∧ i = 0)
set_option maxRecDepth 100000 in
set_option maxHeartbeats 400000 in
theorem k_M_parts {l1 : Int} {g : zi_M} {Q : Int → zi_M → Prop} (I : zk_I g) (p1 : (-2147483648) ≤ l1 ∧ l1 ≤ 2147483647) (hQ : ∀ (v : Int) (g' : zi_M), zk_I g' → zk_fr fr_M_parts g g' → Q v g') : w_M_parts l1 g Q := by
  sorry
-- SpoutNews$Thought.wordsOf(II)I
set_option maxRecDepth 100000 in
set_option maxHeartbeats 400000 in
theorem k_Thought_wordsOf_l5 {g : zi_M} (I : zk_I g) {l1 : Int} {l2 : Int} {K37 : Int → zi_M → Prop} {Q : Int → zi_M → Prop} (q1 : 0 ≤ l1) (q2 : 0 ≤ l2 ∧ l2 ≤ 10) (hK37 : ∀ (k3 : Int), ((-2147483648) ≤ k3 ∧ k3 ≤ 2147483647) → K37 k3 g) (hQ : ∀ v : Int, ((-2147483648) ≤ v ∧ v ≤ 2147483647) → Q v g) : ∀ (n : Nat) {l3 : Int} {l4 : Int}, ((-2147483648) ≤ l3 ∧ l3 ≤ 2147483647) → (0 ≤ l4 ∧ l4 ≤ 10) → 10 - l4 < (n : Int) → w_Thought_wordsOf_l5 l1 l2 K37 Q n l3 l4 g
  | 0, l3, l4, b0, b1, hm => by exfalso; omega
  | n + 1, l3, l4, b0, b1, hm => by
    unfold w_Thought_wordsOf_l5
    refine ⟨⟨by omega, by omega⟩, ⟨by omega, by omega⟩, ?_⟩
    refine ⟨fun c5 => ?_, fun c5 => ?_⟩
    · exact hK37 _ ⟨by omega, by omega⟩
    · have m_1 := zi_shr_f l1 l4
      have m_2 := zi_and_f (zi_shr l1 l4) 1
      refine ⟨fun c4 => ?_, fun c4 => ?_⟩
      · exact k_Thought_wordsOf_l5 I q1 q2 hK37 hQ n ⟨by omega, by omega⟩ ⟨by omega, by omega⟩ (by omega)
      · refine ⟨⟨by omega, by omega⟩, ?_⟩
        have m_3 : (-2147483648) ≤ (g 185 l4) ∧ (g 185 l4) ≤ 2147483647 := I 185 l4
        have m_4 := zi_or_f l3 (g 185 l4)
        exact k_Thought_wordsOf_l5 I q1 q2 hK37 hQ n ⟨by omega, by omega⟩ ⟨by omega, by omega⟩ (by omega)
set_option maxRecDepth 100000 in
set_option maxHeartbeats 400000 in
theorem k_Thought_wordsOf {l1 : Int} {l2 : Int} {g : zi_M} {Q : Int → zi_M → Prop} (I : zk_I g) (p1 : 0 ≤ l1) (p2 : 0 ≤ l2 ∧ l2 ≤ 10) (hQ : ∀ v : Int, ((-2147483648) ≤ v ∧ v ≤ 2147483647) → Q v g) : w_Thought_wordsOf l1 l2 g Q := by
  unfold w_Thought_wordsOf
  refine ⟨((10 - 0 : Int).toNat + 1), k_Thought_wordsOf_l5 (l1 := l1) (l2 := l2) I (by omega) ⟨by omega, by omega⟩ (fun k6 b_5 => ?_) hQ ((10 - 0 : Int).toNat + 1) ⟨by omega, by omega⟩ ⟨by omega, by omega⟩ (by omega)⟩
  exact hQ _ ⟨by omega, by omega⟩
-- SpoutNews$Thought.fewestThatKnow(LSpoutNews$World;I)I
def fr_Thought_fewestThatKnow (a : Nat) (i : Int) : Prop := a = 185
set_option maxRecDepth 100000 in
set_option maxHeartbeats 400000 in
theorem k_Thought_fewestThatKnow {l2 : Int} {g : zi_M} {Q : Int → zi_M → Prop} (I : zk_I g) (p2 : (-2147483648) ≤ l2 ∧ l2 ≤ 2147483647) (hQ : ∀ (v : Int) (g' : zi_M), zk_I g' → zk_fr fr_Thought_fewestThatKnow g g' → ((-1) ≤ v ∧ v ≤ 1023) → Q v g') : w_Thought_fewestThatKnow l2 g Q := by
  sorry
-- SpoutNews.known(II)I
def fr_S_known (a : Nat) (i : Int) : Prop := a = 185
set_option maxRecDepth 100000 in
set_option maxHeartbeats 400000 in
theorem k_S_known_b18 {l1 : Int} {l2 : Int} {Q : Int → zi_M → Prop} {g : zi_M} {g0 : zi_M} (I : zk_I g) (F : zk_fr fr_S_known g0 g) (p1 : (-2147483648) ≤ l1 ∧ l1 ≤ 2147483647) (p2 : 0 ≤ l2 ∧ l2 ≤ 1) (hQ : ∀ (v : Int) (g' : zi_M), zk_I g' → zk_fr fr_S_known g0 g' → ((-1) ≤ v ∧ v ≤ 1023) → Q v g') : w_S_known_b18 l1 l2 g Q := by
  unfold w_S_known_b18
  refine k_Thought_fewestThatKnow I ⟨by omega, by omega⟩ (fun v5 g6 I_5 F_6 b_4 => ?_)
  have F_7 : zk_fr fr_S_known g0 g6 := zk_ft F F_6 (fun a i => (fun h => h))
  refine ⟨⟨by omega, by omega⟩, ?_⟩
  refine ⟨fun c14 => ?_, fun c14 => ?_⟩
  · exact hQ _ _ I_5 F_7 ⟨by omega, by omega⟩
  · refine ⟨⟨by omega, by omega⟩, ?_⟩
    refine ⟨fun c13 => ?_, fun c13 => ?_⟩
    · exact hQ _ _ I_5 F_7 ⟨by omega, by omega⟩
    · have m_9 := zi_ush_f (v5) 1
      have m_10 := zi_and_f (zi_ush v5 1) 1431655765
      have m_11 := zi_and_f (v5 - (zi_and (zi_ush v5 1) 1431655765)) 858993459
      have m_12 := zi_ush_f (v5 - (zi_and (zi_ush v5 1) 1431655765)) 2
      have m_13 := zi_and_f (zi_ush (v5 - (zi_and (zi_ush v5 1) 1431655765)) 2) 858993459
      have m_14 := zi_ush_f ((zi_and (v5 - (zi_and (zi_ush v5 1) 1431655765)) 858993459) + (zi_and (zi_ush (v5 - (zi_and (zi_ush v5 1) 1431655765)) 2) 858993459)) 4
      have m_15 := zi_and_f (((zi_and (v5 - (zi_and (zi_ush v5 1) 1431655765)) 858993459) + (zi_and (zi_ush (v5 - (zi_and (zi_ush v5 1) 1431655765)) 2) 858993459)) + (zi_ush ((zi_and (v5 - (zi_and (zi_ush v5 1) 1431655765)) 858993459) + (zi_and (zi_ush (v5 - (zi_and (zi_ush v5 1) 1431655765)) 2) 858993459)) 4)) 252645135
      have m_16 := zi_ush_f (zi_and (((zi_and (v5 - (zi_and (zi_ush v5 1) 1431655765)) 858993459) + (zi_and (zi_ush (v5 - (zi_and (zi_ush v5 1) 1431655765)) 2) 858993459)) + (zi_ush ((zi_and (v5 - (zi_and (zi_ush v5 1) 1431655765)) 858993459) + (zi_and (zi_ush (v5 - (zi_and (zi_ush v5 1) 1431655765)) 2) 858993459)) 4)) 252645135) 8
      have m_17 := zi_ush_f ((zi_and (((zi_and (v5 - (zi_and (zi_ush v5 1) 1431655765)) 858993459) + (zi_and (zi_ush (v5 - (zi_and (zi_ush v5 1) 1431655765)) 2) 858993459)) + (zi_ush ((zi_and (v5 - (zi_and (zi_ush v5 1) 1431655765)) 858993459) + (zi_and (zi_ush (v5 - (zi_and (zi_ush v5 1) 1431655765)) 2) 858993459)) 4)) 252645135) + (zi_ush (zi_and (((zi_and (v5 - (zi_and (zi_ush v5 1) 1431655765)) 858993459) + (zi_and (zi_ush (v5 - (zi_and (zi_ush v5 1) 1431655765)) 2) 858993459)) + (zi_ush ((zi_and (v5 - (zi_and (zi_ush v5 1) 1431655765)) 858993459) + (zi_and (zi_ush (v5 - (zi_and (zi_ush v5 1) 1431655765)) 2) 858993459)) 4)) 252645135) 8)) 16
      have m_18 := zi_and_f (((zi_and (((zi_and (v5 - (zi_and (zi_ush v5 1) 1431655765)) 858993459) + (zi_and (zi_ush (v5 - (zi_and (zi_ush v5 1) 1431655765)) 2) 858993459)) + (zi_ush ((zi_and (v5 - (zi_and (zi_ush v5 1) 1431655765)) 858993459) + (zi_and (zi_ush (v5 - (zi_and (zi_ush v5 1) 1431655765)) 2) 858993459)) 4)) 252645135) + (zi_ush (zi_and (((zi_and (v5 - (zi_and (zi_ush v5 1) 1431655765)) 858993459) + (zi_and (zi_ush (v5 - (zi_and (zi_ush v5 1) 1431655765)) 2) 858993459)) + (zi_ush ((zi_and (v5 - (zi_and (zi_ush v5 1) 1431655765)) 858993459) + (zi_and (zi_ush (v5 - (zi_and (zi_ush v5 1) 1431655765)) 2) 858993459)) 4)) 252645135) 8)) + (zi_ush ((zi_and (((zi_and (v5 - (zi_and (zi_ush v5 1) 1431655765)) 858993459) + (zi_and (zi_ush (v5 - (zi_and (zi_ush v5 1) 1431655765)) 2) 858993459)) + (zi_ush ((zi_and (v5 - (zi_and (zi_ush v5 1) 1431655765)) 858993459) + (zi_and (zi_ush (v5 - (zi_and (zi_ush v5 1) 1431655765)) 2) 858993459)) 4)) 252645135) + (zi_ush (zi_and (((zi_and (v5 - (zi_and (zi_ush v5 1) 1431655765)) 858993459) + (zi_and (zi_ush (v5 - (zi_and (zi_ush v5 1) 1431655765)) 2) 858993459)) + (zi_ush ((zi_and (v5 - (zi_and (zi_ush v5 1) 1431655765)) 858993459) + (zi_and (zi_ush (v5 - (zi_and (zi_ush v5 1) 1431655765)) 2) 858993459)) 4)) 252645135) 8)) 16)) 63
      refine k_Integer_bitCount I_5 ⟨by omega, by omega⟩ (fun v10 b_8 => ?_)
      exact hQ _ _ I_5 F_7 ⟨by omega, by omega⟩
set_option maxRecDepth 100000 in
set_option maxHeartbeats 400000 in
theorem k_S_known {l1 : Int} {l2 : Int} {g : zi_M} {Q : Int → zi_M → Prop} (I : zk_I g) (p1 : (-2147483648) ≤ l1 ∧ l1 ≤ 2147483647) (p2 : (-2147483648) ≤ l2 ∧ l2 ≤ 2147483647) (hQ : ∀ (v : Int) (g' : zi_M), zk_I g' → zk_fr fr_S_known g g' → ((-1) ≤ v ∧ v ≤ 1023) → Q v g') : w_S_known l1 l2 g Q := by
  unfold w_S_known
  refine k_S_isWordSet I ⟨by omega, by omega⟩ (fun v1 b_1 b_2 b_3 => ?_)
  refine ⟨fun c17 => ?_, fun c17 => ?_⟩
  · exact hQ _ _ I (zk_f0 _) ⟨by omega, by omega⟩
  · refine ⟨⟨by omega, by omega⟩, ?_⟩
    refine ⟨fun c16 => ?_, fun c16 => ?_⟩
    · exact k_S_known_b18 I (zk_f0 _) ⟨by omega, by omega⟩ ⟨by omega, by omega⟩ hQ
    · refine ⟨fun c15 => ?_, fun c15 => ?_⟩
      · exact k_S_known_b18 I (zk_f0 _) ⟨by omega, by omega⟩ ⟨by omega, by omega⟩ hQ
      · exact hQ _ _ I (zk_f0 _) ⟨by omega, by omega⟩
-- SpoutNewsModel.known(II)I
def fr_M_known (a : Nat) (i : Int) : Prop := (a = 214 ∧ i = 0)
set_option maxRecDepth 100000 in
set_option maxHeartbeats 400000 in
theorem k_M_known {l1 : Int} {l2 : Int} {g : zi_M} {Q : Int → zi_M → Prop} (I : zk_I g) (p1 : (-2147483648) ≤ l1 ∧ l1 ≤ 2147483647) (p2 : (-2147483648) ≤ l2 ∧ l2 ≤ 2147483647) (hQ : ∀ (v : Int) (g' : zi_M), zk_I g' → zk_fr fr_M_known g g' → ((-1) ≤ v) → Q v g') : w_M_known l1 l2 g Q := by
  sorry
-- SpoutNews.latin(II)Z
def fr_S_latin (a : Nat) (i : Int) : Prop := a = 41
set_option maxRecDepth 100000 in
set_option maxHeartbeats 400000 in
theorem k_S_latin {l1 : Int} {l2 : Int} {g : zi_M} {Q : Int → zi_M → Prop} (I : zk_I g) (p1 : (-2147483648) ≤ l1 ∧ l1 ≤ 2147483647) (p2 : (-2147483648) ≤ l2 ∧ l2 ≤ 2147483647) (hQ : ∀ (v : Int) (g' : zi_M), zk_I g' → zk_fr fr_S_latin g g' → (0 ≤ v ∧ v ≤ 1) → Q v g') : w_S_latin l1 l2 g Q := by
  unfold w_S_latin
  refine k_S_isWord I ⟨by omega, by omega⟩ (fun v1 b_1 b_2 b_3 => ?_)
  refine ⟨fun c10 => ?_, fun c10 => ?_⟩
  · exact hQ _ _ I (zk_f0 _) ⟨by omega, by omega⟩
  · refine k_S_isWord I ⟨by omega, by omega⟩ (fun v4 b_4 b_5 b_6 => ?_)
    refine ⟨fun c9 => ?_, fun c9 => ?_⟩
    · refine ⟨⟨by omega, by omega⟩, ?_⟩
      intro g8 e_7
      have I_8 : zk_I g8 := by rw [e_7]; exact zk_upd (L := 0) (H := 15) rfl rfl I ⟨by omega, by omega⟩
      have F_9 : zk_fr fr_S_latin g g8 := by rw [e_7]; exact zk_fu (zk_f0 _) rfl
      exact hQ _ _ I_8 F_9 ⟨by omega, by omega⟩
    · exact hQ _ _ I (zk_f0 _) ⟨by omega, by omega⟩
