-- by program (wip/gen/mkz.py)
-- SpoutNewsModel.passedFrom(I)I
set_option maxRecDepth 100000 in
set_option maxHeartbeats 400000 in
theorem k_M_passedFrom {l1 : Int} {g : zi_M} {Q : Int → zi_M → Prop} (I : zk_I g) (p1 : 0 ≤ l1 ∧ l1 ≤ 9) (hQ : ∀ v : Int, (0 ≤ v ∧ v ≤ 1023) → Q v g) : w_M_passedFrom l1 g Q := by
  sorry
-- SpoutNewsModel.told(II)I
def fr_M_told (a : Nat) (i : Int) : Prop := (a = 214 ∧ i = 0)
set_option maxRecDepth 100000 in
set_option maxHeartbeats 400000 in
theorem k_M_told_l31 {l1 : Int} {l2 : Int} {K111 : Int → zi_M → Prop} {Q : Int → zi_M → Prop} {g0 : zi_M} (q1 : (-2147483648) ≤ l1 ∧ l1 ≤ 2147483647) (q2 : (-2147483648) ≤ l2 ∧ l2 ≤ 2147483647) (hK111 : ∀ (k3 : Int) (g : zi_M), zk_I g → zk_fr fr_M_told g0 g → (0 ≤ k3 ∧ k3 ≤ 255) → K111 k3 g) (hQ : ∀ (v : Int) (g' : zi_M), zk_I g' → zk_fr fr_M_told g0 g' → ((-1) ≤ v ∧ v ≤ 255) → Q v g') : ∀ (n : Nat) {l3 : Int} {l4 : Int} {g : zi_M}, zk_I g → zk_fr fr_M_told g0 g → (0 ≤ l3 ∧ l3 ≤ 255) → (0 ≤ l4 ∧ l4 ≤ 8) → 8 - l4 < (n : Int) → w_M_told_l31 l1 l2 K111 Q n l3 l4 g
  | 0, l3, l4, g, I, F, b0, b1, hm => by exfalso; omega
  | n + 1, l3, l4, g, I, F, b0, b1, hm => by
    unfold w_M_told_l31
    have m_13 : 0 ≤ (g 214 7) ∧ (g 214 7) ≤ 8 := I 214 7
    refine ⟨⟨by omega, by omega⟩, ⟨by omega, by omega⟩, ?_⟩
    refine ⟨fun c25 => ?_, fun c25 => ?_⟩
    · exact hK111 _ _ I F ⟨by omega, by omega⟩
    · refine ⟨⟨by omega, by omega⟩, ?_⟩
      have m_14 := zk_rng I 215 (236 + l4)
      have m_17 := zi_shr_f ((g 215 (236 + l4))) (l1)
      have m_18 := zi_and_f (zi_shr (g 215 (236 + l4)) l1) 1
      refine k_M_has I ⟨by omega, by omega⟩ ⟨by omega, by omega⟩ (fun v11 b_15 b_16 => ?_)
      refine ⟨fun c24 => ?_, fun c24 => ?_⟩
      · exact k_M_told_l31 q1 q2 hK111 hQ n I F ⟨by omega, by omega⟩ ⟨by omega, by omega⟩ (by omega)
      · refine ⟨⟨by omega, by omega⟩, ?_⟩
        have m_19 := zk_now244 I (i := (244 + l4)) (by omega)
        refine ⟨⟨by omega, by omega⟩, ?_⟩
        refine ⟨fun c23 => ?_, fun c23 => ?_⟩
        · exact k_M_told_l31 q1 q2 hK111 hQ n I F ⟨by omega, by omega⟩ ⟨by omega, by omega⟩ (by omega)
        · refine k_M_passedFrom I ⟨by omega, by omega⟩ (fun v16 b_20 => ?_)
          have m_23 := zi_shr_f (v16) (l2)
          have m_24 := zi_and_f (zi_shr v16 l2) 1
          refine k_M_has I ⟨by omega, by omega⟩ ⟨by omega, by omega⟩ (fun v19 b_21 b_22 => ?_)
          refine ⟨fun c22 => ?_, fun c22 => ?_⟩
          · exact k_M_told_l31 q1 q2 hK111 hQ n I F ⟨by omega, by omega⟩ ⟨by omega, by omega⟩ (by omega)
          · have m_25 := zi_shl_f l4
            have m_26 := zi_or_f l3 (zi_shl 1 l4)
            exact k_M_told_l31 q1 q2 hK111 hQ n I F ⟨by omega, by omega⟩ ⟨by omega, by omega⟩ (by omega)
set_option maxRecDepth 100000 in
set_option maxHeartbeats 400000 in
theorem k_M_told {l1 : Int} {l2 : Int} {g : zi_M} {Q : Int → zi_M → Prop} (I : zk_I g) (p1 : (-2147483648) ≤ l1 ∧ l1 ≤ 2147483647) (p2 : (-2147483648) ≤ l2 ∧ l2 ≤ 2147483647) (hQ : ∀ (v : Int) (g' : zi_M), zk_I g' → zk_fr fr_M_told g g' → ((-1) ≤ v ∧ v ≤ 255) → Q v g') : w_M_told l1 l2 g Q := by
  unfold w_M_told
  intro g1 e_1
  have I_2 : zk_I g1 := by rw [e_1]; exact zk_upd (L := (-2147483648)) (H := 2147483647) rfl rfl I ⟨by omega, by omega⟩
  have F_3 : zk_fr fr_M_told g g1 := by rw [e_1]; exact zk_fu (zk_f0 _) (by unfold fr_M_told; omega)
  refine k_M_isIn I_2 ⟨by omega, by omega⟩ ⟨by omega, by omega⟩ ⟨by omega, by omega⟩ (fun v2 b_4 b_5 b_6 => ?_)
  refine ⟨fun c30 => ?_, fun c30 => ?_⟩
  · exact hQ _ _ I_2 F_3 ⟨by omega, by omega⟩
  · have m_10 : 0 ≤ (g1 214 6) ∧ (g1 214 6) ≤ 10 := I_2 214 6
    have m_11 : g1 214 6 = g 214 6 := by rw [e_1]; exact zi_u_ni (by decide)
    have m_12 : 0 ≤ (g 214 6) ∧ (g 214 6) ≤ 10 := I 214 6
    refine k_M_isSpout I_2 ⟨by omega, by omega⟩ (fun v5 b_7 b_8 b_9 => ?_)
    refine ⟨fun c29 => ?_, fun c29 => ?_⟩
    · refine ⟨((8 - 0).toNat + 1), k_M_told_l31 (l1 := l1) (l2 := l2) ⟨by omega, by omega⟩ ⟨by omega, by omega⟩ (fun k26 g27 I_27 F_28 b_29 => ?_) hQ ((8 - 0).toNat + 1) I_2 F_3 ⟨by omega, by omega⟩ ⟨by omega, by omega⟩ (by omega)⟩
      exact hQ _ _ I_27 F_28 ⟨by omega, by omega⟩
    · exact hQ _ _ I_2 F_3 ⟨by omega, by omega⟩
-- SpoutNews$Thought.lastOnes(LSpoutNews$Texts;I)I
set_option maxRecDepth 100000 in
set_option maxHeartbeats 400000 in
theorem k_Thought_lastOnes_l5 {g : zi_M} (I : zk_I g) {K33 : Int → zi_M → Prop} {Q : Int → zi_M → Prop} (hK33 : ∀ (k3 : Int), ((-2147483648) ≤ k3 ∧ k3 ≤ 2147483647) → K33 k3 g) (hQ : ∀ v : Int, ((-2147483648) ≤ v ∧ v ≤ 2147483647) → Q v g) : ∀ (n : Nat) {l3 : Int} {l4 : Int}, ((-2147483648) ≤ l3 ∧ l3 ≤ 2147483647) → (0 ≤ l4 ∧ l4 ≤ 10) → 10 - l4 < (n : Int) → w_Thought_lastOnes_l5 K33 Q n l3 l4 g
  | 0, l3, l4, b0, b1, hm => by exfalso; omega
  | n + 1, l3, l4, b0, b1, hm => by
    unfold w_Thought_lastOnes_l5
    refine ⟨⟨by omega, by omega⟩, ?_⟩
    refine ⟨fun c10 => ?_, fun c10 => ?_⟩
    · exact hK33 _ ⟨by omega, by omega⟩
    · have m_4 : (-1) ≤ (g 29 (l3)) ∧ (g 29 (l3)) ≤ 9 := I 29 (l3)
      refine k_Texts_gutterOf I ⟨by omega, by omega⟩ (fun v2 b_1 b_2 b_3 => ?_)
      refine ⟨⟨by omega, by omega⟩, ?_⟩
      refine ⟨fun c9 => ?_, fun c9 => ?_⟩
      · exact hK33 _ ⟨by omega, by omega⟩
      · refine k_Texts_gutterOf I ⟨by omega, by omega⟩ (fun v6 b_5 b_6 b_7 => ?_)
        exact k_Thought_lastOnes_l5 I hK33 hQ n ⟨by omega, by omega⟩ ⟨by omega, by omega⟩ (by omega)
set_option maxRecDepth 100000 in
set_option maxHeartbeats 400000 in
theorem k_Thought_lastOnes {l2 : Int} {g : zi_M} {Q : Int → zi_M → Prop} (I : zk_I g) (p2 : (-2147483648) ≤ l2 ∧ l2 ≤ 2147483647) (hQ : ∀ v : Int, ((-2147483648) ≤ v ∧ v ≤ 2147483647) → Q v g) : w_Thought_lastOnes l2 g Q := by
  unfold w_Thought_lastOnes
  refine ⟨((10 - 0).toNat + 1), k_Thought_lastOnes_l5 I (fun k11 b_8 => ?_) hQ ((10 - 0).toNat + 1) ⟨by omega, by omega⟩ ⟨by omega, by omega⟩ (by omega)⟩
  refine k_Thought_reach I ⟨by omega, by omega⟩ (fun v13 b_9 => ?_)
  exact hQ _ ⟨by omega, by omega⟩
-- SpoutNews$Thought.endOf(LSpoutNews$Texts;I)I
set_option maxRecDepth 100000 in
set_option maxHeartbeats 400000 in
theorem k_Thought_endOf_l13 {g : zi_M} (I : zk_I g) {l3 : Int} {K38 : Int → zi_M → Prop} {Q : Int → zi_M → Prop} (q3 : (-2147483648) ≤ l3 ∧ l3 ≤ 2147483647) (hK38 : ∀ (k4 : Int), (0 ≤ k4) → K38 k4 g) (hQ : ∀ v : Int, (0 ≤ v) → Q v g) : ∀ (n : Nat) {l4 : Int} {l5 : Int}, (0 ≤ l4) → (0 ≤ l5 ∧ l5 ≤ 10) → 10 - l5 < (n : Int) → w_Thought_endOf_l13 l3 K38 Q n l4 l5 g
  | 0, l4, l5, b0, b1, hm => by exfalso; omega
  | n + 1, l4, l5, b0, b1, hm => by
    unfold w_Thought_endOf_l13
    refine ⟨⟨by omega, by omega⟩, ?_⟩
    refine ⟨fun c6 => ?_, fun c6 => ?_⟩
    · exact hK38 _ (by omega)
    · have m_2 := zi_shr_f l3 l4
      have m_3 := zi_and_f (zi_shr l3 l4) 1
      refine ⟨fun c5 => ?_, fun c5 => ?_⟩
      · exact hK38 _ (by omega)
      · exact k_Thought_endOf_l13 I q3 hK38 hQ n (by omega) ⟨by omega, by omega⟩ (by omega)
set_option maxRecDepth 100000 in
set_option maxHeartbeats 400000 in
theorem k_Thought_endOf {l2 : Int} {g : zi_M} {Q : Int → zi_M → Prop} (I : zk_I g) (p2 : (-2147483648) ≤ l2 ∧ l2 ≤ 2147483647) (hQ : ∀ v : Int, (0 ≤ v) → Q v g) : w_Thought_endOf l2 g Q := by
  unfold w_Thought_endOf
  refine k_Thought_lastOnes I ⟨by omega, by omega⟩ (fun v1 b_1 => ?_)
  refine ⟨((10 - 0).toNat + 1), k_Thought_endOf_l13 (l3 := v1) I ⟨by omega, by omega⟩ (fun k7 b_4 => ?_) hQ ((10 - 0).toNat + 1) (by omega) ⟨by omega, by omega⟩ (by omega)⟩
  exact hQ _ (by omega)
-- SpoutNews$Thought.guttersToEnd(LSpoutNews$Texts;I)I
set_option maxRecDepth 100000 in
set_option maxHeartbeats 400000 in
theorem k_Thought_guttersToEnd_l16 {g : zi_M} (I : zk_I g) {l3 : Int} {K55 : Int → zi_M → Prop} {Q : Int → zi_M → Prop} (q3 : (-2147483648) ≤ l3 ∧ l3 ≤ 2147483647) (hK55 : ∀ (k5 : Int), (0 ≤ k5) → K55 k5 g) (hQ : ∀ v : Int, (0 ≤ v) → Q v g) : ∀ (n : Nat) {l4 : Int} {l5 : Int} {l6 : Int}, ((-2147483648) ≤ l4 ∧ l4 ≤ 2147483647) → (0 ≤ l5) → (0 ≤ l6 ∧ l6 ≤ 10) → 10 - l6 < (n : Int) → w_Thought_guttersToEnd_l16 l3 K55 Q n l4 l5 l6 g
  | 0, l4, l5, l6, b0, b1, b2, hm => by exfalso; omega
  | n + 1, l4, l5, l6, b0, b1, b2, hm => by
    unfold w_Thought_guttersToEnd_l16
    refine ⟨⟨by omega, by omega⟩, ?_⟩
    refine ⟨fun c11 => ?_, fun c11 => ?_⟩
    · exact hK55 _ (by omega)
    · refine ⟨⟨by omega, by omega⟩, ?_⟩
      refine ⟨fun c10 => ?_, fun c10 => ?_⟩
      · exact hK55 _ (by omega)
      · have m_2 := zi_shr_f l3 l4
        have m_3 := zi_and_f (zi_shr l3 l4) 1
        refine ⟨fun c9 => ?_, fun c9 => ?_⟩
        · exact hK55 _ (by omega)
        · have m_7 : (-1) ≤ (g 29 (l4)) ∧ (g 29 (l4)) ≤ 9 := I 29 (l4)
          refine k_Texts_gutterOf I ⟨by omega, by omega⟩ (fun v6 b_4 b_5 b_6 => ?_)
          exact k_Thought_guttersToEnd_l16 I q3 hK55 hQ n ⟨by omega, by omega⟩ (by omega) ⟨by omega, by omega⟩ (by omega)
set_option maxRecDepth 100000 in
set_option maxHeartbeats 400000 in
theorem k_Thought_guttersToEnd {l2 : Int} {g : zi_M} {Q : Int → zi_M → Prop} (I : zk_I g) (p2 : (-2147483648) ≤ l2 ∧ l2 ≤ 2147483647) (hQ : ∀ v : Int, (0 ≤ v) → Q v g) : w_Thought_guttersToEnd l2 g Q := by
  unfold w_Thought_guttersToEnd
  refine k_Thought_lastOnes I ⟨by omega, by omega⟩ (fun v1 b_1 => ?_)
  refine ⟨((10 - 0).toNat + 1), k_Thought_guttersToEnd_l16 (l3 := v1) I ⟨by omega, by omega⟩ (fun k12 b_8 => ?_) hQ ((10 - 0).toNat + 1) ⟨by omega, by omega⟩ (by omega) ⟨by omega, by omega⟩ (by omega)⟩
  exact hQ _ (by omega)
-- SpoutNews.ends(II)I
set_option maxRecDepth 100000 in
set_option maxHeartbeats 400000 in
theorem k_S_ends {l1 : Int} {l2 : Int} {g : zi_M} {Q : Int → zi_M → Prop} (I : zk_I g) (p1 : (-2147483648) ≤ l1 ∧ l1 ≤ 2147483647) (p2 : (-2147483648) ≤ l2 ∧ l2 ≤ 2147483647) (hQ : ∀ v : Int, ((-1) ≤ v) → Q v g) : w_S_ends l1 l2 g Q := by
  unfold w_S_ends
  have m_4 : 0 ≤ (g 2 8) ∧ (g 2 8) ≤ 10 := I 2 8
  refine k_World_isSpout rfl I ⟨by omega, by omega⟩ (fun v1 b_1 b_2 b_3 => ?_)
  refine ⟨fun c12 => ?_, fun c12 => ?_⟩
  · refine ⟨⟨by omega, by omega⟩, ?_⟩
    refine ⟨fun c5_0 c5_1 => ?_, fun c5 => ?_, fun c5 => ?_⟩
    · exact hQ _ (by omega)
    · refine k_Thought_endOf I ⟨by omega, by omega⟩ (fun v6 b_5 => ?_)
      exact hQ _ (by omega)
    · refine k_Thought_guttersToEnd I ⟨by omega, by omega⟩ (fun v9 b_6 => ?_)
      exact hQ _ (by omega)
  · exact hQ _ (by omega)
-- SpoutNewsModel.isInRound(I)Z
set_option maxRecDepth 100000 in
set_option maxHeartbeats 400000 in
theorem k_M_isInRound_l8 {g : zi_M} (I : zk_I g) {l1 : Int} {K24 : zi_M → Prop} {K38 : zi_M → Prop} {Q : Int → zi_M → Prop} (q1 : 0 ≤ l1 ∧ l1 ≤ 9) (hK24 : K24 g) (hK38 : K38 g) (hQ : ∀ v : Int, (0 ≤ v ∧ v ≤ 1) → Q v g) : ∀ (n : Nat) {l2 : Int} {l3 : Int}, ((-1) ≤ l2 ∧ l2 ≤ 9) → (0 ≤ l3 ∧ l3 ≤ 10) → 10 - l3 < (n : Int) → w_M_isInRound_l8 l1 K24 K38 Q n l2 l3 g
  | 0, l2, l3, b0, b1, hm => by exfalso; omega
  | n + 1, l2, l3, b0, b1, hm => by
    unfold w_M_isInRound_l8
    refine ⟨⟨by omega, by omega⟩, ?_⟩
    refine ⟨fun c12 => ?_, fun c12 => ?_⟩
    · exact hK38
    · refine ⟨⟨by omega, by omega⟩, ?_⟩
      refine ⟨fun c11 => ?_, fun c11 => ?_⟩
      · exact hK38
      · refine ⟨⟨by omega, by omega⟩, ?_⟩
        refine ⟨fun c10 => ?_, fun c10 => ?_⟩
        · have m_4 : 0 ≤ (g 232 (l2)) ∧ (g 232 (l2)) ≤ 10 := I 232 (l2)
          refine k_M_into I ⟨by omega, by omega⟩ (fun v7 b_3 => ?_)
          exact k_M_isInRound_l8 I q1 hK24 hK38 hQ n ⟨by omega, by omega⟩ ⟨by omega, by omega⟩ (by omega)
        · exact hK24
set_option maxRecDepth 100000 in
set_option maxHeartbeats 400000 in
theorem k_M_isInRound {l1 : Int} {g : zi_M} {Q : Int → zi_M → Prop} (I : zk_I g) (p1 : 0 ≤ l1 ∧ l1 ≤ 9) (hQ : ∀ v : Int, (0 ≤ v ∧ v ≤ 1) → Q v g) : w_M_isInRound l1 g Q := by
  unfold w_M_isInRound
  have m_2 : 0 ≤ (g 232 (l1)) ∧ (g 232 (l1)) ≤ 10 := I 232 (l1)
  refine k_M_into I ⟨by omega, by omega⟩ (fun v1 b_1 => ?_)
  refine ⟨((10 - 0).toNat + 1), k_M_isInRound_l8 (l1 := l1) I ⟨by omega, by omega⟩ (?_) (?_) hQ ((10 - 0).toNat + 1) ⟨by omega, by omega⟩ ⟨by omega, by omega⟩ (by omega)⟩
  · exact hQ _ ⟨by omega, by omega⟩
  · exact hQ _ ⟨by omega, by omega⟩
-- SpoutNewsModel.leastOfRound(I)I
set_option maxRecDepth 100000 in
set_option maxHeartbeats 400000 in
theorem k_M_leastOfRound {l1 : Int} {g : zi_M} {Q : Int → zi_M → Prop} (I : zk_I g) (p1 : 0 ≤ l1 ∧ l1 ≤ 9) (hQ : ∀ v : Int, ((-2147483648) ≤ v ∧ v ≤ 2147483647) → Q v g) : w_M_leastOfRound l1 g Q := by
  sorry
-- SpoutNewsModel.ends(II)I
def fr_M_ends (a : Nat) (i : Int) : Prop := (a = 214 ∧ i = 0)
set_option maxRecDepth 100000 in
set_option maxHeartbeats 400000 in
theorem k_M_ends {l1 : Int} {l2 : Int} {g : zi_M} {Q : Int → zi_M → Prop} (I : zk_I g) (p1 : (-2147483648) ≤ l1 ∧ l1 ≤ 2147483647) (p2 : (-2147483648) ≤ l2 ∧ l2 ≤ 2147483647) (hQ : ∀ (v : Int) (g' : zi_M), zk_I g' → zk_fr fr_M_ends g g' → ((-2147483648) ≤ v) → Q v g') : w_M_ends l1 l2 g Q := by
  sorry
-- SpoutNews$Thought.allEnds(LSpoutNews$World;LSpoutNews$Texts;)I
set_option maxRecDepth 100000 in
set_option maxHeartbeats 400000 in
theorem k_Thought_allEnds_l5 {g : zi_M} (I : zk_I g) {K32 : Int → zi_M → Prop} {Q : Int → zi_M → Prop} (hK32 : ∀ (k3 : Int), ((-2147483648) ≤ k3 ∧ k3 ≤ 2147483647) → K32 k3 g) (hQ : ∀ v : Int, ((-2147483648) ≤ v ∧ v ≤ 2147483647) → Q v g) : ∀ (n : Nat) {l3 : Int} {l4 : Int}, ((-2147483648) ≤ l3 ∧ l3 ≤ 2147483647) → (0 ≤ l4 ∧ l4 ≤ 10) → 10 - l4 < (n : Int) → w_Thought_allEnds_l5 K32 Q n l3 l4 g
  | 0, l3, l4, b0, b1, hm => by exfalso; omega
  | n + 1, l3, l4, b0, b1, hm => by
    unfold w_Thought_allEnds_l5
    have m_1 : 0 ≤ (g 2 8) ∧ (g 2 8) ≤ 10 := I 2 8
    refine ⟨⟨by omega, by omega⟩, ⟨by omega, by omega⟩, ?_⟩
    refine ⟨fun c6 => ?_, fun c6 => ?_⟩
    · exact hK32 _ ⟨by omega, by omega⟩
    · refine k_Thought_endOf I ⟨by omega, by omega⟩ (fun v3 b_2 => ?_)
      have m_3 := zi_shl_f v3
      have m_4 := zi_or_f l3 (zi_shl 1 v3)
      exact k_Thought_allEnds_l5 I hK32 hQ n ⟨by omega, by omega⟩ ⟨by omega, by omega⟩ (by omega)
set_option maxRecDepth 100000 in
set_option maxHeartbeats 400000 in
theorem k_Thought_allEnds {g : zi_M} {Q : Int → zi_M → Prop} (I : zk_I g) (hQ : ∀ v : Int, ((-2147483648) ≤ v ∧ v ≤ 2147483647) → Q v g) : w_Thought_allEnds g Q := by
  unfold w_Thought_allEnds
  refine ⟨((10 - 0).toNat + 1), k_Thought_allEnds_l5 I (fun k7 b_5 => ?_) hQ ((10 - 0).toNat + 1) ⟨by omega, by omega⟩ ⟨by omega, by omega⟩ (by omega)⟩
  exact hQ _ ⟨by omega, by omega⟩
-- java/lang/Integer.bitCount(I)I
set_option maxRecDepth 100000 in
set_option maxHeartbeats 400000 in
theorem k_Integer_bitCount {l0 : Int} {g : zi_M} {Q : Int → zi_M → Prop} (I : zk_I g) (p0 : (-2147483648) ≤ l0 ∧ l0 ≤ 2147483647) (hQ : ∀ v : Int, (v = zi_and (((zi_and (((zi_and (l0 - (zi_and (zi_ush l0 1) 1431655765)) 858993459) + (zi_and (zi_ush (l0 - (zi_and (zi_ush l0 1) 1431655765)) 2) 858993459)) + (zi_ush ((zi_and (l0 - (zi_and (zi_ush l0 1) 1431655765)) 858993459) + (zi_and (zi_ush (l0 - (zi_and (zi_ush l0 1) 1431655765)) 2) 858993459)) 4)) 252645135) + (zi_ush (zi_and (((zi_and (l0 - (zi_and (zi_ush l0 1) 1431655765)) 858993459) + (zi_and (zi_ush (l0 - (zi_and (zi_ush l0 1) 1431655765)) 2) 858993459)) + (zi_ush ((zi_and (l0 - (zi_and (zi_ush l0 1) 1431655765)) 858993459) + (zi_and (zi_ush (l0 - (zi_and (zi_ush l0 1) 1431655765)) 2) 858993459)) 4)) 252645135) 8)) + (zi_ush ((zi_and (((zi_and (l0 - (zi_and (zi_ush l0 1) 1431655765)) 858993459) + (zi_and (zi_ush (l0 - (zi_and (zi_ush l0 1) 1431655765)) 2) 858993459)) + (zi_ush ((zi_and (l0 - (zi_and (zi_ush l0 1) 1431655765)) 858993459) + (zi_and (zi_ush (l0 - (zi_and (zi_ush l0 1) 1431655765)) 2) 858993459)) 4)) 252645135) + (zi_ush (zi_and (((zi_and (l0 - (zi_and (zi_ush l0 1) 1431655765)) 858993459) + (zi_and (zi_ush (l0 - (zi_and (zi_ush l0 1) 1431655765)) 2) 858993459)) + (zi_ush ((zi_and (l0 - (zi_and (zi_ush l0 1) 1431655765)) 858993459) + (zi_and (zi_ush (l0 - (zi_and (zi_ush l0 1) 1431655765)) 2) 858993459)) 4)) 252645135) 8)) 16)) 63) → Q v g) : w_Integer_bitCount l0 g Q := by
  unfold w_Integer_bitCount
  have m_1 := zi_ush_f l0 1
  have m_2 := zi_and_f (zi_ush l0 1) 1431655765
  have m_3 := zi_and_f (l0 - (zi_and (zi_ush l0 1) 1431655765)) 858993459
  have m_4 := zi_ush_f (l0 - (zi_and (zi_ush l0 1) 1431655765)) 2
  have m_5 := zi_and_f (zi_ush (l0 - (zi_and (zi_ush l0 1) 1431655765)) 2) 858993459
  intro y1 e_17
  have m_6 := zi_ush_f y1 4
  have m_7 := zi_and_f (y1 + (zi_ush y1 4)) 252645135
  have m_8 := zi_ush_f (zi_and (y1 + (zi_ush y1 4)) 252645135) 8
  intro y2 e_16
  have m_9 := zi_ush_f y2 16
  have m_10 := zi_and_f (y2 + (zi_ush y2 16)) 63
  have m_11 := zi_ush_f ((zi_and (l0 - (zi_and (zi_ush l0 1) 1431655765)) 858993459) + (zi_and (zi_ush (l0 - (zi_and (zi_ush l0 1) 1431655765)) 2) 858993459)) 4
  have m_12 := zi_and_f (((zi_and (l0 - (zi_and (zi_ush l0 1) 1431655765)) 858993459) + (zi_and (zi_ush (l0 - (zi_and (zi_ush l0 1) 1431655765)) 2) 858993459)) + (zi_ush ((zi_and (l0 - (zi_and (zi_ush l0 1) 1431655765)) 858993459) + (zi_and (zi_ush (l0 - (zi_and (zi_ush l0 1) 1431655765)) 2) 858993459)) 4)) 252645135
  have m_13 := zi_ush_f (zi_and (((zi_and (l0 - (zi_and (zi_ush l0 1) 1431655765)) 858993459) + (zi_and (zi_ush (l0 - (zi_and (zi_ush l0 1) 1431655765)) 2) 858993459)) + (zi_ush ((zi_and (l0 - (zi_and (zi_ush l0 1) 1431655765)) 858993459) + (zi_and (zi_ush (l0 - (zi_and (zi_ush l0 1) 1431655765)) 2) 858993459)) 4)) 252645135) 8
  have m_14 := zi_ush_f ((zi_and (((zi_and (l0 - (zi_and (zi_ush l0 1) 1431655765)) 858993459) + (zi_and (zi_ush (l0 - (zi_and (zi_ush l0 1) 1431655765)) 2) 858993459)) + (zi_ush ((zi_and (l0 - (zi_and (zi_ush l0 1) 1431655765)) 858993459) + (zi_and (zi_ush (l0 - (zi_and (zi_ush l0 1) 1431655765)) 2) 858993459)) 4)) 252645135) + (zi_ush (zi_and (((zi_and (l0 - (zi_and (zi_ush l0 1) 1431655765)) 858993459) + (zi_and (zi_ush (l0 - (zi_and (zi_ush l0 1) 1431655765)) 2) 858993459)) + (zi_ush ((zi_and (l0 - (zi_and (zi_ush l0 1) 1431655765)) 858993459) + (zi_and (zi_ush (l0 - (zi_and (zi_ush l0 1) 1431655765)) 2) 858993459)) 4)) 252645135) 8)) 16
  have m_15 := zi_and_f (((zi_and (((zi_and (l0 - (zi_and (zi_ush l0 1) 1431655765)) 858993459) + (zi_and (zi_ush (l0 - (zi_and (zi_ush l0 1) 1431655765)) 2) 858993459)) + (zi_ush ((zi_and (l0 - (zi_and (zi_ush l0 1) 1431655765)) 858993459) + (zi_and (zi_ush (l0 - (zi_and (zi_ush l0 1) 1431655765)) 2) 858993459)) 4)) 252645135) + (zi_ush (zi_and (((zi_and (l0 - (zi_and (zi_ush l0 1) 1431655765)) 858993459) + (zi_and (zi_ush (l0 - (zi_and (zi_ush l0 1) 1431655765)) 2) 858993459)) + (zi_ush ((zi_and (l0 - (zi_and (zi_ush l0 1) 1431655765)) 858993459) + (zi_and (zi_ush (l0 - (zi_and (zi_ush l0 1) 1431655765)) 2) 858993459)) 4)) 252645135) 8)) + (zi_ush ((zi_and (((zi_and (l0 - (zi_and (zi_ush l0 1) 1431655765)) 858993459) + (zi_and (zi_ush (l0 - (zi_and (zi_ush l0 1) 1431655765)) 2) 858993459)) + (zi_ush ((zi_and (l0 - (zi_and (zi_ush l0 1) 1431655765)) 858993459) + (zi_and (zi_ush (l0 - (zi_and (zi_ush l0 1) 1431655765)) 2) 858993459)) 4)) 252645135) + (zi_ush (zi_and (((zi_and (l0 - (zi_and (zi_ush l0 1) 1431655765)) 858993459) + (zi_and (zi_ush (l0 - (zi_and (zi_ush l0 1) 1431655765)) 2) 858993459)) + (zi_ush ((zi_and (l0 - (zi_and (zi_ush l0 1) 1431655765)) 858993459) + (zi_and (zi_ush (l0 - (zi_and (zi_ush l0 1) 1431655765)) 2) 858993459)) 4)) 252645135) 8)) 16)) 63
  exact hQ _ (by intros; omega)
-- SpoutNews.catches(I)I
set_option maxRecDepth 100000 in
set_option maxHeartbeats 400000 in
theorem k_S_catches_b11 {l1 : Int} {Q : Int → zi_M → Prop} {g : zi_M} (I : zk_I g) (p1 : 0 ≤ l1 ∧ l1 ≤ 1) (hQ : ∀ v : Int, ((-2147483648) ≤ v ∧ v ≤ 2147483647) → Q v g) : w_S_catches_b11 l1 g Q := by
  unfold w_S_catches_b11
  refine k_Thought_allEnds I (fun v2 b_1 => ?_)
  refine ⟨⟨by omega, by omega⟩, ?_⟩
  refine ⟨fun c9 => ?_, fun c9 => ?_⟩
  · exact hQ _ ⟨by omega, by omega⟩
  · have m_3 := zi_ush_f (v2) 1
    have m_4 := zi_and_f (zi_ush v2 1) 1431655765
    have m_5 := zi_and_f (v2 - (zi_and (zi_ush v2 1) 1431655765)) 858993459
    have m_6 := zi_ush_f (v2 - (zi_and (zi_ush v2 1) 1431655765)) 2
    have m_7 := zi_and_f (zi_ush (v2 - (zi_and (zi_ush v2 1) 1431655765)) 2) 858993459
    have m_8 := zi_ush_f ((zi_and (v2 - (zi_and (zi_ush v2 1) 1431655765)) 858993459) + (zi_and (zi_ush (v2 - (zi_and (zi_ush v2 1) 1431655765)) 2) 858993459)) 4
    have m_9 := zi_and_f (((zi_and (v2 - (zi_and (zi_ush v2 1) 1431655765)) 858993459) + (zi_and (zi_ush (v2 - (zi_and (zi_ush v2 1) 1431655765)) 2) 858993459)) + (zi_ush ((zi_and (v2 - (zi_and (zi_ush v2 1) 1431655765)) 858993459) + (zi_and (zi_ush (v2 - (zi_and (zi_ush v2 1) 1431655765)) 2) 858993459)) 4)) 252645135
    have m_10 := zi_ush_f (zi_and (((zi_and (v2 - (zi_and (zi_ush v2 1) 1431655765)) 858993459) + (zi_and (zi_ush (v2 - (zi_and (zi_ush v2 1) 1431655765)) 2) 858993459)) + (zi_ush ((zi_and (v2 - (zi_and (zi_ush v2 1) 1431655765)) 858993459) + (zi_and (zi_ush (v2 - (zi_and (zi_ush v2 1) 1431655765)) 2) 858993459)) 4)) 252645135) 8
    have m_11 := zi_ush_f ((zi_and (((zi_and (v2 - (zi_and (zi_ush v2 1) 1431655765)) 858993459) + (zi_and (zi_ush (v2 - (zi_and (zi_ush v2 1) 1431655765)) 2) 858993459)) + (zi_ush ((zi_and (v2 - (zi_and (zi_ush v2 1) 1431655765)) 858993459) + (zi_and (zi_ush (v2 - (zi_and (zi_ush v2 1) 1431655765)) 2) 858993459)) 4)) 252645135) + (zi_ush (zi_and (((zi_and (v2 - (zi_and (zi_ush v2 1) 1431655765)) 858993459) + (zi_and (zi_ush (v2 - (zi_and (zi_ush v2 1) 1431655765)) 2) 858993459)) + (zi_ush ((zi_and (v2 - (zi_and (zi_ush v2 1) 1431655765)) 858993459) + (zi_and (zi_ush (v2 - (zi_and (zi_ush v2 1) 1431655765)) 2) 858993459)) 4)) 252645135) 8)) 16
    have m_12 := zi_and_f (((zi_and (((zi_and (v2 - (zi_and (zi_ush v2 1) 1431655765)) 858993459) + (zi_and (zi_ush (v2 - (zi_and (zi_ush v2 1) 1431655765)) 2) 858993459)) + (zi_ush ((zi_and (v2 - (zi_and (zi_ush v2 1) 1431655765)) 858993459) + (zi_and (zi_ush (v2 - (zi_and (zi_ush v2 1) 1431655765)) 2) 858993459)) 4)) 252645135) + (zi_ush (zi_and (((zi_and (v2 - (zi_and (zi_ush v2 1) 1431655765)) 858993459) + (zi_and (zi_ush (v2 - (zi_and (zi_ush v2 1) 1431655765)) 2) 858993459)) + (zi_ush ((zi_and (v2 - (zi_and (zi_ush v2 1) 1431655765)) 858993459) + (zi_and (zi_ush (v2 - (zi_and (zi_ush v2 1) 1431655765)) 2) 858993459)) 4)) 252645135) 8)) + (zi_ush ((zi_and (((zi_and (v2 - (zi_and (zi_ush v2 1) 1431655765)) 858993459) + (zi_and (zi_ush (v2 - (zi_and (zi_ush v2 1) 1431655765)) 2) 858993459)) + (zi_ush ((zi_and (v2 - (zi_and (zi_ush v2 1) 1431655765)) 858993459) + (zi_and (zi_ush (v2 - (zi_and (zi_ush v2 1) 1431655765)) 2) 858993459)) 4)) 252645135) + (zi_ush (zi_and (((zi_and (v2 - (zi_and (zi_ush v2 1) 1431655765)) 858993459) + (zi_and (zi_ush (v2 - (zi_and (zi_ush v2 1) 1431655765)) 2) 858993459)) + (zi_ush ((zi_and (v2 - (zi_and (zi_ush v2 1) 1431655765)) 858993459) + (zi_and (zi_ush (v2 - (zi_and (zi_ush v2 1) 1431655765)) 2) 858993459)) 4)) 252645135) 8)) 16)) 63
    refine k_Integer_bitCount I ⟨by omega, by omega⟩ (fun v6 b_2 => ?_)
    exact hQ _ ⟨by omega, by omega⟩
set_option maxRecDepth 100000 in
set_option maxHeartbeats 400000 in
theorem k_S_catches {l1 : Int} {g : zi_M} {Q : Int → zi_M → Prop} (I : zk_I g) (p1 : (-2147483648) ≤ l1 ∧ l1 ≤ 2147483647) (hQ : ∀ v : Int, ((-2147483648) ≤ v ∧ v ≤ 2147483647) → Q v g) : w_S_catches l1 g Q := by
  unfold w_S_catches
  refine ⟨⟨by omega, by omega⟩, ?_⟩
  refine ⟨fun c11 => ?_, fun c11 => ?_⟩
  · exact k_S_catches_b11 I ⟨by omega, by omega⟩ hQ
  · refine ⟨fun c10 => ?_, fun c10 => ?_⟩
    · exact k_S_catches_b11 I ⟨by omega, by omega⟩ hQ
    · exact hQ _ ⟨by omega, by omega⟩
-- SpoutNewsModel.onesOf(I)I
set_option maxRecDepth 100000 in
set_option maxHeartbeats 400000 in
theorem k_M_onesOf_l4 {g : zi_M} (I : zk_I g) {K21 : Int → zi_M → Prop} {Q : Int → zi_M → Prop} (hK21 : ∀ (k2 : Int), (0 ≤ k2) → K21 k2 g) (hQ : ∀ v : Int, (0 ≤ v) → Q v g) : ∀ (n : Nat) {l2 : Int} {l3 : Int}, (0 ≤ l2) → (0 ≤ l3 ∧ l3 ≤ 65535) → l3 < (n : Int) → w_M_onesOf_l4 K21 Q n l2 l3 g
  | 0, l2, l3, b0, b1, hm => by exfalso; omega
  | n + 1, l2, l3, b0, b1, hm => by
    unfold w_M_onesOf_l4
    refine ⟨⟨by omega, by omega⟩, ?_⟩
    refine ⟨fun c2 => ?_, fun c2 => ?_⟩
    · exact hK21 _ (by omega)
    · have m_1 := zi_and_f l3 (l3 - 1)
      exact k_M_onesOf_l4 I hK21 hQ n (by omega) ⟨by omega, by omega⟩ (by omega)
set_option maxRecDepth 100000 in
set_option maxHeartbeats 400000 in
theorem k_M_onesOf {l1 : Int} {g : zi_M} {Q : Int → zi_M → Prop} (I : zk_I g) (p1 : 0 ≤ l1 ∧ l1 ≤ 65535) (hQ : ∀ v : Int, (0 ≤ v) → Q v g) : w_M_onesOf l1 g Q := by
  unfold w_M_onesOf
  refine ⟨((l1).toNat + 1), k_M_onesOf_l4 I (fun k3 b_2 => ?_) hQ ((l1).toNat + 1) (by omega) ⟨by omega, by omega⟩ (by omega)⟩
  exact hQ _ (by omega)
-- SpoutNewsModel.catchesAll(I)Z
set_option maxRecDepth 100000 in
set_option maxHeartbeats 400000 in
theorem k_M_catchesAll_l2 {g : zi_M} (I : zk_I g) {l1 : Int} {K20 : zi_M → Prop} {K28 : zi_M → Prop} {Q : Int → zi_M → Prop} (q1 : 0 ≤ l1) (hK20 : K20 g) (hK28 : K28 g) (hQ : ∀ v : Int, (0 ≤ v ∧ v ≤ 1) → Q v g) : ∀ (n : Nat) {l2 : Int}, (0 ≤ l2 ∧ l2 ≤ 10) → 10 - l2 < (n : Int) → w_M_catchesAll_l2 l1 K20 K28 Q n l2 g
  | 0, l2, b0, hm => by exfalso; omega
  | n + 1, l2, b0, hm => by
    unfold w_M_catchesAll_l2
    have m_1 : 0 ≤ (g 214 6) ∧ (g 214 6) ≤ 10 := I 214 6
    refine ⟨⟨by omega, by omega⟩, ⟨by omega, by omega⟩, ?_⟩
    refine ⟨fun c7 => ?_, fun c7 => ?_⟩
    · exact hK28
    · refine k_M_passedFrom I ⟨by omega, by omega⟩ (fun v3 b_2 => ?_)
      have m_3 := zi_and_f v3 l1
      refine ⟨fun c6 => ?_, fun c6 => ?_⟩
      · exact k_M_catchesAll_l2 I q1 hK20 hK28 hQ n ⟨by omega, by omega⟩ (by omega)
      · exact hK20
set_option maxRecDepth 100000 in
set_option maxHeartbeats 400000 in
theorem k_M_catchesAll {l1 : Int} {g : zi_M} {Q : Int → zi_M → Prop} (I : zk_I g) (p1 : 0 ≤ l1) (hQ : ∀ v : Int, (0 ≤ v ∧ v ≤ 1) → Q v g) : w_M_catchesAll l1 g Q := by
  unfold w_M_catchesAll
  refine ⟨((10 - 0).toNat + 1), k_M_catchesAll_l2 (l1 := l1) I (by omega) (?_) (?_) hQ ((10 - 0).toNat + 1) ⟨by omega, by omega⟩ (by omega)⟩
  · exact hQ _ ⟨by omega, by omega⟩
  · exact hQ _ ⟨by omega, by omega⟩
-- SpoutNewsModel.catches(I)I
def fr_M_catches (a : Nat) (i : Int) : Prop := (a = 214 ∧ i = 0)
set_option maxRecDepth 100000 in
set_option maxHeartbeats 400000 in
theorem k_M_catches_l28 {K67 : Int → zi_M → Prop} {Q : Int → zi_M → Prop} {g0 : zi_M} (hK67 : ∀ (k2 : Int) (g : zi_M), zk_I g → zk_fr fr_M_catches g0 g → (0 ≤ k2 ∧ k2 ≤ 1023) → K67 k2 g) (hQ : ∀ (v : Int) (g' : zi_M), zk_I g' → zk_fr fr_M_catches g0 g' → ((-1) ≤ v) → Q v g') : ∀ (n : Nat) {l2 : Int} {l3 : Int} {g : zi_M}, zk_I g → zk_fr fr_M_catches g0 g → (0 ≤ l2 ∧ l2 ≤ 1023) → (0 ≤ l3 ∧ l3 ≤ 1024) → 1024 - l3 < (n : Int) → w_M_catches_l28 K67 Q n l2 l3 g
  | 0, l2, l3, g, I, F, b0, b1, hm => by exfalso; omega
  | n + 1, l2, l3, g, I, F, b0, b1, hm => by
    unfold w_M_catches_l28
    refine ⟨⟨by omega, by omega⟩, ?_⟩
    have m_7 : 0 ≤ (g 214 6) ∧ (g 214 6) ≤ 10 := I 214 6
    have m_8 := zi_shl_f (g 214 6)
    refine ⟨fun c19 => ?_, fun c19 => ?_⟩
    · exact hK67 _ _ I F ⟨by omega, by omega⟩
    · refine k_M_onesOf I ⟨by omega, by omega⟩ (fun v6 b_9 => ?_)
      refine k_M_onesOf I ⟨by omega, by omega⟩ (fun v9 b_10 => ?_)
      refine ⟨⟨by omega, by omega⟩, ⟨by omega, by omega⟩, ?_⟩
      refine ⟨fun c18 => ?_, fun c18 => ?_⟩
      · exact k_M_catches_l28 hK67 hQ n I F ⟨by omega, by omega⟩ ⟨by omega, by omega⟩ (by omega)
      · refine k_M_catchesAll I (by omega) (fun v14 b_11 => ?_)
        refine ⟨fun c17 => ?_, fun c17 => ?_⟩
        · exact k_M_catches_l28 hK67 hQ n I F ⟨by omega, by omega⟩ ⟨by omega, by omega⟩ (by omega)
        · exact k_M_catches_l28 hK67 hQ n I F ⟨by omega, by omega⟩ ⟨by omega, by omega⟩ (by omega)
set_option maxRecDepth 100000 in
set_option maxHeartbeats 400000 in
theorem k_M_catches {l1 : Int} {g : zi_M} {Q : Int → zi_M → Prop} (I : zk_I g) (p1 : (-2147483648) ≤ l1 ∧ l1 ≤ 2147483647) (hQ : ∀ (v : Int) (g' : zi_M), zk_I g' → zk_fr fr_M_catches g g' → ((-1) ≤ v) → Q v g') : w_M_catches l1 g Q := by
  unfold w_M_catches
  intro g1 e_1
  have I_2 : zk_I g1 := by rw [e_1]; exact zk_upd (L := (-2147483648)) (H := 2147483647) rfl rfl I ⟨by omega, by omega⟩
  have F_3 : zk_fr fr_M_catches g g1 := by rw [e_1]; exact zk_fu (zk_f0 _) (by unfold fr_M_catches; omega)
  refine k_M_isIn I_2 ⟨by omega, by omega⟩ ⟨by omega, by omega⟩ ⟨by omega, by omega⟩ (fun v2 b_4 b_5 b_6 => ?_)
  refine ⟨fun c28 => ?_, fun c28 => ?_⟩
  · have m_16 : 0 ≤ (g1 214 6) ∧ (g1 214 6) ≤ 10 := I_2 214 6
    have m_17 : g1 214 6 = g 214 6 := by rw [e_1]; exact zi_u_ni (by decide)
    have m_18 : 0 ≤ (g 214 6) ∧ (g 214 6) ≤ 10 := I 214 6
    have m_19 := zi_shl_f (g1 214 6)
    refine ⟨((1024 - 0).toNat + 1), k_M_catches_l28 (fun k20 g21 I_12 F_13 b_14 => ?_) hQ ((1024 - 0).toNat + 1) I_2 F_3 ⟨by omega, by omega⟩ ⟨by omega, by omega⟩ (by omega)⟩
    refine ⟨⟨by omega, by omega⟩, ?_⟩
    refine ⟨fun c26 => ?_, fun c26 => ?_⟩
    · exact hQ _ _ I_12 F_13 (by omega)
    · refine k_M_onesOf I_12 ⟨by omega, by omega⟩ (fun v23 b_15 => ?_)
      exact hQ _ _ I_12 F_13 (by omega)
  · exact hQ _ _ I_2 F_3 (by omega)
-- SpoutNews.seat(II)I
def fr_S_seat (a : Nat) (i : Int) : Prop := a = 37 ∨ a = 38 ∨ (a = 36 ∧ i = 2)
set_option maxRecDepth 100000 in
set_option maxHeartbeats 400000 in
theorem k_S_seat {l1 : Int} {l2 : Int} {g : zi_M} {Q : Int → zi_M → Prop} (I : zk_I g) (p1 : (-2147483648) ≤ l1 ∧ l1 ≤ 2147483647) (p2 : (-2147483648) ≤ l2 ∧ l2 ≤ 2147483647) (hQ : ∀ (v : Int) (g' : zi_M), zk_I g' → zk_fr fr_S_seat g g' → ((-1) ≤ v ∧ v ≤ 12) → Q v g') : w_S_seat l1 l2 g Q := by
  unfold w_S_seat
  refine ⟨⟨by omega, by omega⟩, ?_⟩
  refine ⟨fun c18 => ?_, fun c18 => ?_⟩
  · have m_4 : 0 ≤ (g 2 11) ∧ (g 2 11) ≤ 8 := I 2 11
    refine k_World_isSitter I ⟨by omega, by omega⟩ (fun v2 b_1 b_2 b_3 => ?_)
    refine ⟨fun c16 => ?_, fun c16 => ?_⟩
    · exact hQ _ _ I (zk_f0 _) ⟨by omega, by omega⟩
    · have m_8 : 0 ≤ (g 2 8) ∧ (g 2 8) ≤ 10 := I 2 8
      refine k_World_isSpout rfl I ⟨by omega, by omega⟩ (fun v5 b_5 b_6 b_7 => ?_)
      refine ⟨fun c15 => ?_, fun c15 => ?_⟩
      · exact hQ _ _ I (zk_f0 _) ⟨by omega, by omega⟩
      · have m_9 : 0 ≤ (g 36 2) ∧ (g 36 2) ≤ 12 := I 36 2
        refine ⟨⟨by omega, by omega⟩, ?_⟩
        refine ⟨fun c14 => ?_, fun c14 => ?_⟩
        · refine ⟨⟨by omega, by omega⟩, ?_⟩
          intro g10 e_10
          have I_11 : zk_I g10 := by rw [e_10]; exact zk_upd (L := 0) (H := 7) rfl rfl I ⟨by omega, by omega⟩
          have F_12 : zk_fr fr_S_seat g g10 := by rw [e_10]; exact zk_fu (zk_f0 _) (by unfold fr_S_seat; omega)
          have m_16 : 0 ≤ (g10 36 2) ∧ (g10 36 2) ≤ 12 := I_11 36 2
          have m_17 : g10 36 2 = g 36 2 := by rw [e_10]; exact zi_u_ne (by decide)
          refine ⟨⟨by omega, by omega⟩, ?_⟩
          intro g12 e_13
          have I_14 : zk_I g12 := by rw [e_13]; exact zk_upd (L := 0) (H := 9) rfl rfl I_11 ⟨by omega, by omega⟩
          have F_15 : zk_fr fr_S_seat g g12 := by rw [e_13]; exact zk_fu F_12 (by unfold fr_S_seat; omega)
          have m_21 : 0 ≤ (g12 36 2) ∧ (g12 36 2) ≤ 12 := I_14 36 2
          have m_22 : g12 36 2 = g10 36 2 := by rw [e_13]; exact zi_u_ne (by decide)
          intro g13 e_18
          have I_19 : zk_I g13 := by rw [e_18]; exact zk_upd (L := 0) (H := 12) rfl rfl I_14 ⟨by omega, by omega⟩
          have F_20 : zk_fr fr_S_seat g g13 := by rw [e_18]; exact zk_fu F_15 (by unfold fr_S_seat; omega)
          have m_23 : 0 ≤ (g13 36 2) ∧ (g13 36 2) ≤ 12 := I_19 36 2
          have m_24 : g13 36 2 = (g12 36 2) + 1 := by rw [e_18]; exact zi_u_eq
          exact hQ _ _ I_19 F_20 ⟨by omega, by omega⟩
        · exact hQ _ _ I (zk_f0 _) ⟨by omega, by omega⟩
  · intro g17 e_25
    have I_26 : zk_I g17 := by rw [e_25]; exact zk_upd (L := 0) (H := 12) rfl rfl I ⟨by omega, by omega⟩
    have F_27 : zk_fr fr_S_seat g g17 := by rw [e_25]; exact zk_fu (zk_f0 _) (by unfold fr_S_seat; omega)
    exact hQ _ _ I_26 F_27 ⟨by omega, by omega⟩
