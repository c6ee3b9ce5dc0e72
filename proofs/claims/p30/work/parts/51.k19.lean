-- by program (wip/gen/mkz.py)
-- SpoutNews.chapter(I)I
def fr_S_chapter (a : Nat) (i : Int) : Prop := a = 45 ∨ (a = 36 ∧ i = 12)
set_option maxRecDepth 100000 in
set_option maxHeartbeats 400000 in
theorem k_S_chapter {l1 : Int} {g : zi_M} {Q : Int → zi_M → Prop} (I : zk_I g) (p1 : (-2147483648) ≤ l1 ∧ l1 ≤ 2147483647) (hQ : ∀ (v : Int) (g' : zi_M), zk_I g' → zk_fr fr_S_chapter g g' → ((-1) ≤ v ∧ v ≤ 12) → Q v g') : w_S_chapter l1 g Q := by
  unfold w_S_chapter
  refine ⟨⟨by omega, by omega⟩, ?_⟩
  refine ⟨fun c10 => ?_, fun c10 => ?_⟩
  · refine ⟨fun c8 => ?_, fun c8 => ?_⟩
    · exact hQ _ _ I (zk_f0 _) ⟨by omega, by omega⟩
    · refine ⟨fun c7 => ?_, fun c7 => ?_⟩
      · exact hQ _ _ I (zk_f0 _) ⟨by omega, by omega⟩
      · have m_1 : 0 ≤ (g 36 12) ∧ (g 36 12) ≤ 12 := I 36 12
        refine ⟨⟨by omega, by omega⟩, ?_⟩
        refine ⟨fun c6 => ?_, fun c6 => ?_⟩
        · refine ⟨⟨by omega, by omega⟩, ?_⟩
          intro g4 e_2
          have I_3 : zk_I g4 := by rw [e_2]; exact zk_upd (L := 0) (H := 60) rfl rfl I ⟨by omega, by omega⟩
          have F_4 : zk_fr fr_S_chapter g g4 := by rw [e_2]; exact zk_fu (zk_f0 _) (by unfold fr_S_chapter; omega)
          have m_8 : 0 ≤ (g4 36 12) ∧ (g4 36 12) ≤ 12 := I_3 36 12
          have m_9 : g4 36 12 = g 36 12 := by rw [e_2]; exact zi_u_ne (by decide)
          intro g5 e_5
          have I_6 : zk_I g5 := by rw [e_5]; exact zk_upd (L := 0) (H := 12) rfl rfl I_3 ⟨by omega, by omega⟩
          have F_7 : zk_fr fr_S_chapter g g5 := by rw [e_5]; exact zk_fu F_4 (by unfold fr_S_chapter; omega)
          have m_10 : 0 ≤ (g5 36 12) ∧ (g5 36 12) ≤ 12 := I_6 36 12
          have m_11 : g5 36 12 = (g4 36 12) + 1 := by rw [e_5]; exact zi_u_eq
          exact hQ _ _ I_6 F_7 ⟨by omega, by omega⟩
        · exact hQ _ _ I (zk_f0 _) ⟨by omega, by omega⟩
  · intro g9 e_12
    have I_13 : zk_I g9 := by rw [e_12]; exact zk_upd (L := 0) (H := 12) rfl rfl I ⟨by omega, by omega⟩
    have F_14 : zk_fr fr_S_chapter g g9 := by rw [e_12]; exact zk_fu (zk_f0 _) (by unfold fr_S_chapter; omega)
    exact hQ _ _ I_13 F_14 ⟨by omega, by omega⟩
-- SpoutNewsModel.chapter(I)I
def fr_M_chapter (a : Nat) (i : Int) : Prop := a = 248 ∨ (a = 214 ∧ i = 0) ∨ (a = 214 ∧ i = 58)
set_option maxRecDepth 100000 in
set_option maxHeartbeats 400000 in
theorem k_M_chapter {l1 : Int} {g : zi_M} {Q : Int → zi_M → Prop} (I : zk_I g) (p1 : (-2147483648) ≤ l1 ∧ l1 ≤ 2147483647) (hQ : ∀ (v : Int) (g' : zi_M), zk_I g' → zk_fr fr_M_chapter g g' → ((-1) ≤ v ∧ v ≤ 12) → Q v g') : w_M_chapter l1 g Q := by
  unfold w_M_chapter
  intro g1 e_1
  have I_2 : zk_I g1 := by rw [e_1]; exact zk_upd (L := (-2147483648)) (H := 2147483647) rfl rfl I ⟨by omega, by omega⟩
  have F_3 : zk_fr fr_M_chapter g g1 := by rw [e_1]; exact zk_fu (zk_f0 _) (by unfold fr_M_chapter; omega)
  refine ⟨⟨by omega, by omega⟩, ?_⟩
  refine ⟨fun c13 => ?_, fun c13 => ?_⟩
  · refine k_M_isIn I_2 ⟨by omega, by omega⟩ ⟨by omega, by omega⟩ ⟨by omega, by omega⟩ (fun v3 b_4 b_5 b_6 => ?_)
    refine ⟨fun c11 => ?_, fun c11 => ?_⟩
    · exact hQ _ _ I_2 F_3 ⟨by omega, by omega⟩
    · have m_7 : 0 ≤ (g1 214 58) ∧ (g1 214 58) ≤ 12 := I_2 214 58
      have m_8 : g1 214 58 = g 214 58 := by rw [e_1]; exact zi_u_ni (by decide)
      have m_9 : 0 ≤ (g 214 58) ∧ (g 214 58) ≤ 12 := I 214 58
      refine ⟨⟨by omega, by omega⟩, ?_⟩
      refine ⟨fun c10 => ?_, fun c10 => ?_⟩
      · refine ⟨⟨by omega, by omega⟩, ?_⟩
        intro g8 e_10
        have I_11 : zk_I g8 := by rw [e_10]; exact zk_upd (L := 0) (H := 60) rfl rfl I_2 ⟨by omega, by omega⟩
        have F_12 : zk_fr fr_M_chapter g g8 := by rw [e_10]; exact zk_fu F_3 (by unfold fr_M_chapter; omega)
        have m_16 : 0 ≤ (g8 214 58) ∧ (g8 214 58) ≤ 12 := I_11 214 58
        have m_17 : g8 214 58 = g1 214 58 := by rw [e_10]; exact zi_u_ne (by decide)
        intro g9 e_13
        have I_14 : zk_I g9 := by rw [e_13]; exact zk_upd (L := 0) (H := 12) rfl rfl I_11 ⟨by omega, by omega⟩
        have F_15 : zk_fr fr_M_chapter g g9 := by rw [e_13]; exact zk_fu F_12 (by unfold fr_M_chapter; omega)
        have m_18 : 0 ≤ (g9 214 58) ∧ (g9 214 58) ≤ 12 := I_14 214 58
        have m_19 : g9 214 58 = (g8 214 58) + 1 := by rw [e_13]; exact zi_u_eq
        exact hQ _ _ I_14 F_15 ⟨by omega, by omega⟩
      · exact hQ _ _ I_2 F_3 ⟨by omega, by omega⟩
  · intro g12 e_20
    have I_21 : zk_I g12 := by rw [e_20]; exact zk_upd (L := 0) (H := 12) rfl rfl I_2 ⟨by omega, by omega⟩
    have F_22 : zk_fr fr_M_chapter g g12 := by rw [e_20]; exact zk_fu F_3 (by unfold fr_M_chapter; omega)
    exact hQ _ _ I_21 F_22 ⟨by omega, by omega⟩
-- SpoutNews$Thought.storm(II)I
set_option maxRecDepth 100000 in
set_option maxHeartbeats 400000 in
theorem k_Thought_storm {l0 : Int} {l1 : Int} {g : zi_M} {Q : Int → zi_M → Prop} (I : zk_I g) (p0 : 1 ≤ l0 ∧ l0 ≤ 6) (p1 : 0 ≤ l1) (hQ : ∀ v : Int, (v = (l0 * 13) + l1) → Q v g) : w_Thought_storm l0 l1 g Q := by
  unfold w_Thought_storm
  exact hQ _ (by intros; omega)
-- SpoutNews$Told.minutes(II)I
set_option maxRecDepth 100000 in
set_option maxHeartbeats 400000 in
theorem k_Told_minutes_l5 {g : zi_M} (I : zk_I g) {l2 : Int} {K36 : Int → zi_M → Prop} {Q : Int → zi_M → Prop} (q2 : 0 ≤ l2 ∧ l2 ≤ 12) (hK36 : ∀ (k3 : Int), (0 ≤ k3) → K36 k3 g) (hQ : ∀ v : Int, (0 ≤ v) → Q v g) : ∀ (n : Nat) {l3 : Int} {l4 : Int}, (0 ≤ l3) → (0 ≤ l4) → l2 - l4 < (n : Int) → w_Told_minutes_l5 l2 K36 Q n l3 l4 g
  | 0, l3, l4, b0, b1, hm => by exfalso; omega
  | n + 1, l3, l4, b0, b1, hm => by
    unfold w_Told_minutes_l5
    refine ⟨⟨by omega, by omega⟩, ⟨by omega, by omega⟩, ?_⟩
    refine ⟨fun c6 => ?_, fun c6 => ?_⟩
    · exact hK36 _ (by omega)
    · have m_1 : 0 ≤ (g 36 12) ∧ (g 36 12) ≤ 12 := I 36 12
      refine ⟨⟨by omega, by omega⟩, ?_⟩
      refine ⟨fun c5 => ?_, fun c5 => ?_⟩
      · exact hK36 _ (by omega)
      · refine ⟨⟨by omega, by omega⟩, ?_⟩
        have m_2 : 0 ≤ (g 45 l4) ∧ (g 45 l4) ≤ 60 := I 45 l4
        exact k_Told_minutes_l5 I q2 hK36 hQ n (by omega) (by omega) (by omega)
set_option maxRecDepth 100000 in
set_option maxHeartbeats 400000 in
theorem k_Told_minutes {l1 : Int} {l2 : Int} {g : zi_M} {Q : Int → zi_M → Prop} (I : zk_I g) (p1 : 0 ≤ l1) (p2 : 0 ≤ l2 ∧ l2 ≤ 12) (hQ : ∀ v : Int, (0 ≤ v) → Q v g) : w_Told_minutes l1 l2 g Q := by
  unfold w_Told_minutes
  refine ⟨((l2 - l1).toNat + 1), k_Told_minutes_l5 (l2 := l2) I ⟨by omega, by omega⟩ (fun k7 b_3 => ?_) hQ ((l2 - l1).toNat + 1) (by omega) (by omega) (by omega)⟩
  exact hQ _ (by omega)
-- SpoutNews$Thought.greatestSum(LSpoutNews$Told;III)I
set_option maxRecDepth 100000 in
set_option maxHeartbeats 400000 in
theorem k_Thought_greatestSum {l2 : Int} {l3 : Int} {l4 : Int} {g : zi_M} {Q : Int → zi_M → Prop} (I : zk_I g) (p2 : 2 ≤ l2 ∧ l2 ≤ 6) (p3 : 0 ≤ l3 ∧ l3 ≤ 10) (p4 : 1 ≤ l4 ∧ l4 ≤ 11) (hQ : ∀ v : Int, (0 ≤ v) → Q v g) : w_Thought_greatestSum l2 l3 l4 g Q := by
  unfold w_Thought_greatestSum
  refine k_Told_minutes I (by omega) ⟨by omega, by omega⟩ (fun v1 b_1 => ?_)
  refine k_Thought_storm I ⟨by omega, by omega⟩ (by omega) (fun v4 b_2 => ?_)
  refine ⟨⟨by omega, by omega⟩, ?_⟩
  have m_3 : 0 ≤ (g 189 v4) ∧ (g 189 v4) ≤ 720 := I 189 v4
  refine ⟨⟨by omega, by omega⟩, ⟨by omega, by omega⟩, ?_⟩
  exact hQ _ (by omega)
-- SpoutNews$Thought.readInStorms(LSpoutNews$Told;I)V
def fr_Thought_readInStorms (a : Nat) (i : Int) : Prop := a = 189
set_option maxRecDepth 100000 in
set_option maxHeartbeats 400000 in
theorem k_Thought_readInStorms_l2 {K35 : zi_M → Prop} {Q : Int → zi_M → Prop} {g0 : zi_M} (hK35 : ∀ (g : zi_M), zk_I g → zk_fr fr_Thought_readInStorms g0 g → K35 g) (hQ : ∀ g' : zi_M, zk_I g' → zk_fr fr_Thought_readInStorms g0 g' → Q 0 g') : ∀ (n : Nat) {l3 : Int} {g : zi_M}, zk_I g → zk_fr fr_Thought_readInStorms g0 g → (0 ≤ l3 ∧ l3 ≤ 13) → 13 - l3 < (n : Int) → w_Thought_readInStorms_l2 K35 Q n l3 g
  | 0, l3, g, I, F, b0, hm => by exfalso; omega
  | n + 1, l3, g, I, F, b0, hm => by
    unfold w_Thought_readInStorms_l2
    have m_1 : 0 ≤ (g 36 12) ∧ (g 36 12) ≤ 12 := I 36 12
    refine ⟨⟨by omega, by omega⟩, ⟨by omega, by omega⟩, ?_⟩
    refine ⟨fun c11 => ?_, fun c11 => ?_⟩
    · exact hK35 _ I F
    · refine k_Thought_storm I ⟨by omega, by omega⟩ (by omega) (fun v3 b_2 => ?_)
      refine k_Told_minutes I (by omega) ⟨by omega, by omega⟩ (fun v6 b_3 => ?_)
      refine ⟨⟨by omega, by omega⟩, ?_⟩
      intro g10 e_4
      have I_5 : zk_I g10 := by rw [e_4]; exact zk_upd (L := 0) (H := 720) rfl rfl I ⟨by omega, by omega⟩
      have F_6 : zk_fr fr_Thought_readInStorms g0 g10 := by rw [e_4]; exact zk_fu F (by unfold fr_Thought_readInStorms; omega)
      exact k_Thought_readInStorms_l2 hK35 hQ n I_5 F_6 ⟨by omega, by omega⟩ (by omega)
set_option maxRecDepth 100000 in
set_option maxHeartbeats 400000 in
theorem k_Thought_readInStorms_l73 {l3 : Int} {l4 : Int} {K109 : Int → zi_M → Prop} {Q : Int → zi_M → Prop} {g0 : zi_M} (q3 : 2 ≤ l3 ∧ l3 ≤ 6) (q4 : 0 ≤ l4 ∧ l4 ≤ 10) (hK109 : ∀ (k5 : Int) (g : zi_M), zk_I g → zk_fr fr_Thought_readInStorms g0 g → (0 ≤ k5) → K109 k5 g) (hQ : ∀ g' : zi_M, zk_I g' → zk_fr fr_Thought_readInStorms g0 g' → Q 0 g') : ∀ (n : Nat) {l5 : Int} {l6 : Int} {g : zi_M}, zk_I g → zk_fr fr_Thought_readInStorms g0 g → (0 ≤ l5) → (1 ≤ l6 ∧ l6 ≤ 12) → 12 - l6 < (n : Int) → w_Thought_readInStorms_l73 l3 l4 K109 Q n l5 l6 g
  | 0, l5, l6, g, I, F, b0, b1, hm => by exfalso; omega
  | n + 1, l5, l6, g, I, F, b0, b1, hm => by
    unfold w_Thought_readInStorms_l73
    have m_11 : 0 ≤ (g 36 12) ∧ (g 36 12) ≤ 12 := I 36 12
    refine ⟨⟨by omega, by omega⟩, ⟨by omega, by omega⟩, ?_⟩
    refine ⟨fun c27 => ?_, fun c27 => ?_⟩
    · exact hK109 _ _ I F (by omega)
    · refine k_Thought_greatestSum I ⟨by omega, by omega⟩ ⟨by omega, by omega⟩ ⟨by omega, by omega⟩ (fun v22 b_12 => ?_)
      refine ⟨⟨by omega, by omega⟩, ⟨by omega, by omega⟩, ?_⟩
      exact k_Thought_readInStorms_l73 q3 q4 hK109 hQ n I F (by omega) ⟨by omega, by omega⟩ (by omega)
set_option maxRecDepth 100000 in
set_option maxHeartbeats 400000 in
theorem k_Thought_readInStorms_l45 {l3 : Int} {K128 : zi_M → Prop} {Q : Int → zi_M → Prop} {g0 : zi_M} (q3 : 2 ≤ l3 ∧ l3 ≤ 6) (hK128 : ∀ (g : zi_M), zk_I g → zk_fr fr_Thought_readInStorms g0 g → K128 g) (hQ : ∀ g' : zi_M, zk_I g' → zk_fr fr_Thought_readInStorms g0 g' → Q 0 g') : ∀ (n : Nat) {l4 : Int} {g : zi_M}, zk_I g → zk_fr fr_Thought_readInStorms g0 g → (0 ≤ l4 ∧ l4 ≤ 11) → 11 - l4 < (n : Int) → w_Thought_readInStorms_l45 l3 K128 Q n l4 g
  | 0, l4, g, I, F, b0, hm => by exfalso; omega
  | n + 1, l4, g, I, F, b0, hm => by
    unfold w_Thought_readInStorms_l45
    have m_9 : 0 ≤ (g 36 12) ∧ (g 36 12) ≤ 12 := I 36 12
    refine ⟨⟨by omega, by omega⟩, ⟨by omega, by omega⟩, ?_⟩
    refine ⟨fun c36 => ?_, fun c36 => ?_⟩
    · exact hK128 _ I F
    · refine k_Told_minutes I (by omega) ⟨by omega, by omega⟩ (fun v17 b_10 => ?_)
      refine ⟨((12 - (l4 + 1)).toNat + 1), k_Thought_readInStorms_l73 (l3 := l3) (l4 := l4) ⟨by omega, by omega⟩ ⟨by omega, by omega⟩ (fun k28 g29 I_13 F_14 b_15 => ?_) hQ ((12 - (l4 + 1)).toNat + 1) I F (by omega) ⟨by omega, by omega⟩ (by omega)⟩
      refine k_Thought_storm I_13 ⟨by omega, by omega⟩ (by omega) (fun v30 b_16 => ?_)
      refine ⟨⟨by omega, by omega⟩, ?_⟩
      intro g34 e_17
      have I_18 : zk_I g34 := by rw [e_17]; exact zk_upd (L := 0) (H := 720) rfl rfl I_13 ⟨by omega, by omega⟩
      have F_19 : zk_fr fr_Thought_readInStorms g0 g34 := by rw [e_17]; exact zk_fu F_14 (by unfold fr_Thought_readInStorms; omega)
      exact k_Thought_readInStorms_l45 q3 hK128 hQ n I_18 F_19 ⟨by omega, by omega⟩ (by omega)
set_option maxRecDepth 100000 in
set_option maxHeartbeats 400000 in
theorem k_Thought_readInStorms_l37 {l2 : Int} {K134 : zi_M → Prop} {Q : Int → zi_M → Prop} {g0 : zi_M} (q2 : 1 ≤ l2 ∧ l2 ≤ 6) (hK134 : ∀ (g : zi_M), zk_I g → zk_fr fr_Thought_readInStorms g0 g → K134 g) (hQ : ∀ g' : zi_M, zk_I g' → zk_fr fr_Thought_readInStorms g0 g' → Q 0 g') : ∀ (n : Nat) {l3 : Int} {g : zi_M}, zk_I g → zk_fr fr_Thought_readInStorms g0 g → (2 ≤ l3 ∧ l3 ≤ 7) → 7 - l3 < (n : Int) → w_Thought_readInStorms_l37 l2 K134 Q n l3 g
  | 0, l3, g, I, F, b0, hm => by exfalso; omega
  | n + 1, l3, g, I, F, b0, hm => by
    unfold w_Thought_readInStorms_l37
    refine ⟨⟨by omega, by omega⟩, ⟨by omega, by omega⟩, ?_⟩
    refine ⟨fun c39 => ?_, fun c39 => ?_⟩
    · exact hK134 _ I F
    · refine ⟨((11 - 0).toNat + 1), k_Thought_readInStorms_l45 (l3 := l3) ⟨by omega, by omega⟩ (fun g37 I_20 F_21 => ?_) hQ ((11 - 0).toNat + 1) I F ⟨by omega, by omega⟩ (by omega)⟩
      exact k_Thought_readInStorms_l37 q2 hK134 hQ n I_20 F_21 ⟨by omega, by omega⟩ (by omega)
set_option maxRecDepth 100000 in
set_option maxHeartbeats 400000 in
theorem k_Thought_readInStorms {l2 : Int} {g : zi_M} {Q : Int → zi_M → Prop} (I : zk_I g) (p2 : 1 ≤ l2 ∧ l2 ≤ 6) (hQ : ∀ g' : zi_M, zk_I g' → zk_fr fr_Thought_readInStorms g g' → Q 0 g') : w_Thought_readInStorms l2 g Q := by
  unfold w_Thought_readInStorms
  refine ⟨((13 - 0).toNat + 1), k_Thought_readInStorms_l2 (fun g12 I_7 F_8 => ?_) hQ ((13 - 0).toNat + 1) I (zk_f0 _) ⟨by omega, by omega⟩ (by omega)⟩
  refine ⟨((7 - 2).toNat + 1), k_Thought_readInStorms_l37 (l2 := l2) ⟨by omega, by omega⟩ (fun g40 I_22 F_23 => ?_) hQ ((7 - 2).toNat + 1) I_7 F_8 ⟨by omega, by omega⟩ (by omega)⟩
  exact hQ _ I_22 F_23
-- SpoutNews$Thought.leastSum(I)I
set_option maxRecDepth 100000 in
set_option maxHeartbeats 400000 in
theorem k_Thought_leastSum {l1 : Int} {g : zi_M} {Q : Int → zi_M → Prop} (I : zk_I g) (p1 : 1 ≤ l1 ∧ l1 ≤ 6) (hQ : ∀ v : Int, (v = g 189 ((l1 * 13) + 0)) → Q v g) : w_Thought_leastSum l1 g Q := by
  unfold w_Thought_leastSum
  refine k_Thought_storm I ⟨by omega, by omega⟩ (by omega) (fun v1 b_1 => ?_)
  refine ⟨⟨by omega, by omega⟩, ?_⟩
  have m_2 : 0 ≤ (g 189 v1) ∧ (g 189 v1) ≤ 720 := I 189 v1
  have m_3 : 0 ≤ (g 189 ((l1 * 13) + 0)) ∧ (g 189 ((l1 * 13) + 0)) ≤ 720 := I 189 ((l1 * 13) + 0)
  exact hQ _ (by intros; omega)
-- SpoutNews$Thought.secondStorm(LSpoutNews$Told;I)I
set_option maxRecDepth 100000 in
set_option maxHeartbeats 400000 in
theorem k_Thought_secondStorm_l2 {g : zi_M} (I : zk_I g) {l2 : Int} {K35 : Int → zi_M → Prop} {K43 : zi_M → Prop} {Q : Int → zi_M → Prop} (q2 : 1 ≤ l2 ∧ l2 ≤ 6) (hK35 : ∀ (k3 : Int), (1 ≤ k3 ∧ k3 ≤ 11) → K35 k3 g) (hK43 : K43 g) (hQ : ∀ v : Int, ((-1) ≤ v ∧ v ≤ 11) → Q v g) : ∀ (n : Nat) {l3 : Int}, (1 ≤ l3 ∧ l3 ≤ 12) → 12 - l3 < (n : Int) → w_Thought_secondStorm_l2 l2 K35 K43 Q n l3 g
  | 0, l3, b0, hm => by exfalso; omega
  | n + 1, l3, b0, hm => by
    unfold w_Thought_secondStorm_l2
    refine ⟨⟨by omega, by omega⟩, ?_⟩
    refine ⟨fun c14 => ?_, fun c14 => ?_⟩
    · exact hK43
    · have m_1 : 0 ≤ (g 36 12) ∧ (g 36 12) ≤ 12 := I 36 12
      refine ⟨⟨by omega, by omega⟩, ⟨by omega, by omega⟩, ?_⟩
      refine ⟨fun c13 => ?_, fun c13 => ?_⟩
      · exact hK43
      · refine k_Thought_greatestSum I ⟨by omega, by omega⟩ ⟨by omega, by omega⟩ ⟨by omega, by omega⟩ (fun v4 b_2 => ?_)
        have m_4 : 0 ≤ (g 189 ((l2 * 13) + 0)) ∧ (g 189 ((l2 * 13) + 0)) ≤ 720 := I 189 ((l2 * 13) + 0)
        refine k_Thought_leastSum I ⟨by omega, by omega⟩ (fun v7 b_3 => ?_)
        refine ⟨⟨by omega, by omega⟩, ⟨by omega, by omega⟩, ?_⟩
        refine ⟨fun c12 => ?_, fun c12 => ?_⟩
        · exact k_Thought_secondStorm_l2 I q2 hK35 hK43 hQ n ⟨by omega, by omega⟩ (by omega)
        · exact hK35 _ ⟨by omega, by omega⟩
set_option maxRecDepth 100000 in
set_option maxHeartbeats 400000 in
theorem k_Thought_secondStorm {l2 : Int} {g : zi_M} {Q : Int → zi_M → Prop} (I : zk_I g) (p2 : 1 ≤ l2 ∧ l2 ≤ 6) (hQ : ∀ v : Int, ((-1) ≤ v ∧ v ≤ 11) → Q v g) : w_Thought_secondStorm l2 g Q := by
  unfold w_Thought_secondStorm
  refine ⟨((12 - 1).toNat + 1), k_Thought_secondStorm_l2 (l2 := l2) I ⟨by omega, by omega⟩ (fun k15 b_5 => ?_) (?_) hQ ((12 - 1).toNat + 1) ⟨by omega, by omega⟩ (by omega)⟩
  · exact hQ _ ⟨by omega, by omega⟩
  · exact hQ _ ⟨by omega, by omega⟩
-- SpoutNews.read(II)I
def fr_S_read (a : Nat) (i : Int) : Prop := a = 189
set_option maxRecDepth 100000 in
set_option maxHeartbeats 400000 in
theorem k_S_read_b36 {l1 : Int} {l2 : Int} {Q : Int → zi_M → Prop} {g : zi_M} {g0 : zi_M} (I : zk_I g) (F : zk_fr fr_S_read g0 g) (p1 : 1 ≤ l1 ∧ l1 ≤ 6) (p2 : 0 ≤ l2 ∧ l2 ≤ 1) (hQ : ∀ (v : Int) (g' : zi_M), zk_I g' → zk_fr fr_S_read g0 g' → ((-1) ≤ v ∧ v ≤ 720) → Q v g') : w_S_read_b36 l1 l2 g Q := by
  unfold w_S_read_b36
  refine k_Thought_readInStorms I ⟨by omega, by omega⟩ (fun g5 I_2 F_3 => ?_)
  have F_4 : zk_fr fr_S_read g0 g5 := zk_ft F F_3 (by intro a i h; unfold fr_Thought_readInStorms at h; unfold fr_S_read; omega)
  refine ⟨⟨by omega, by omega⟩, ?_⟩
  refine ⟨fun c14 => ?_, fun c14 => ?_⟩
  · refine k_Thought_secondStorm I_2 ⟨by omega, by omega⟩ (fun v8 b_5 => ?_)
    exact hQ _ _ I_2 F_4 ⟨by omega, by omega⟩
  · have m_7 : 0 ≤ (g5 189 ((l1 * 13) + 0)) ∧ (g5 189 ((l1 * 13) + 0)) ≤ 720 := I_2 189 ((l1 * 13) + 0)
    refine k_Thought_leastSum I_2 ⟨by omega, by omega⟩ (fun v11 b_6 => ?_)
    exact hQ _ _ I_2 F_4 ⟨by omega, by omega⟩
set_option maxRecDepth 100000 in
set_option maxHeartbeats 400000 in
theorem k_S_read {l1 : Int} {l2 : Int} {g : zi_M} {Q : Int → zi_M → Prop} (I : zk_I g) (p1 : (-2147483648) ≤ l1 ∧ l1 ≤ 2147483647) (p2 : (-2147483648) ≤ l2 ∧ l2 ≤ 2147483647) (hQ : ∀ (v : Int) (g' : zi_M), zk_I g' → zk_fr fr_S_read g g' → ((-1) ≤ v ∧ v ≤ 720) → Q v g') : w_S_read l1 l2 g Q := by
  unfold w_S_read
  refine ⟨⟨by omega, by omega⟩, ?_⟩
  refine ⟨fun c19 => ?_, fun c19 => ?_⟩
  · exact hQ _ _ I (zk_f0 _) ⟨by omega, by omega⟩
  · refine ⟨fun c18 => ?_, fun c18 => ?_⟩
    · exact hQ _ _ I (zk_f0 _) ⟨by omega, by omega⟩
    · have m_1 : 0 ≤ (g 36 12) ∧ (g 36 12) ≤ 12 := I 36 12
      refine ⟨⟨by omega, by omega⟩, ?_⟩
      refine ⟨fun c17 => ?_, fun c17 => ?_⟩
      · exact hQ _ _ I (zk_f0 _) ⟨by omega, by omega⟩
      · refine ⟨⟨by omega, by omega⟩, ?_⟩
        refine ⟨fun c16 => ?_, fun c16 => ?_⟩
        · exact k_S_read_b36 I (zk_f0 _) ⟨by omega, by omega⟩ ⟨by omega, by omega⟩ hQ
        · refine ⟨fun c15 => ?_, fun c15 => ?_⟩
          · exact k_S_read_b36 I (zk_f0 _) ⟨by omega, by omega⟩ ⟨by omega, by omega⟩ hQ
          · exact hQ _ _ I (zk_f0 _) ⟨by omega, by omega⟩
-- SpoutNewsModel.minutesOf(II)I
set_option maxRecDepth 100000 in
set_option maxHeartbeats 400000 in
theorem k_M_minutesOf_l5 {g : zi_M} (I : zk_I g) {l2 : Int} {K27 : Int → zi_M → Prop} {Q : Int → zi_M → Prop} (q2 : 1 ≤ l2) (hK27 : ∀ (k3 : Int), (0 ≤ k3) → K27 k3 g) (hQ : ∀ v : Int, (0 ≤ v) → Q v g) : ∀ (n : Nat) {l3 : Int} {l4 : Int}, (0 ≤ l3) → (0 ≤ l4) → l2 - l4 < (n : Int) → w_M_minutesOf_l5 l2 K27 Q n l3 l4 g
  | 0, l3, l4, b0, b1, hm => by exfalso; omega
  | n + 1, l3, l4, b0, b1, hm => by
    unfold w_M_minutesOf_l5
    refine ⟨⟨by omega, by omega⟩, ⟨by omega, by omega⟩, ?_⟩
    refine ⟨fun c4 => ?_, fun c4 => ?_⟩
    · exact hK27 _ (by omega)
    · refine ⟨⟨by omega, by omega⟩, ?_⟩
      have m_1 : 0 ≤ (g 248 l4) ∧ (g 248 l4) ≤ 60 := I 248 l4
      exact k_M_minutesOf_l5 I q2 hK27 hQ n (by omega) (by omega) (by omega)
set_option maxRecDepth 100000 in
set_option maxHeartbeats 400000 in
theorem k_M_minutesOf {l1 : Int} {l2 : Int} {g : zi_M} {Q : Int → zi_M → Prop} (I : zk_I g) (p1 : 0 ≤ l1 ∧ l1 ≤ 12) (p2 : 1 ≤ l2) (hQ : ∀ v : Int, (0 ≤ v) → Q v g) : w_M_minutesOf l1 l2 g Q := by
  unfold w_M_minutesOf
  refine ⟨((l2 - l1).toNat + 1), k_M_minutesOf_l5 (l2 := l2) I (by omega) (fun k5 b_2 => ?_) hQ ((l2 - l1).toNat + 1) (by omega) (by omega) (by omega)⟩
  exact hQ _ (by omega)
-- SpoutNewsModel.findsRead(I)V
def fr_M_findsRead (a : Nat) (i : Int) : Prop := a = 249
set_option maxRecDepth 100000 in
set_option maxHeartbeats 400000 in
theorem k_M_findsRead_l50 {l2 : Int} {l3 : Int} {K98 : Int → zi_M → Prop} {Q : Int → zi_M → Prop} {g0 : zi_M} (q2 : 0 ≤ l2 ∧ l2 ≤ 12) (q3 : 1 ≤ l3 ∧ l3 ≤ 6) (hK98 : ∀ (k4 : Int) (g : zi_M), zk_I g → zk_fr fr_M_findsRead g0 g → ((-2147483648) ≤ k4 ∧ k4 ≤ 2147483647) → K98 k4 g) (hQ : ∀ g' : zi_M, zk_I g' → zk_fr fr_M_findsRead g0 g' → Q 0 g') : ∀ (n : Nat) {l4 : Int} {l5 : Int} {g : zi_M}, zk_I g → zk_fr fr_M_findsRead g0 g → ((-2147483648) ≤ l4 ∧ l4 ≤ 2147483647) → (1 ≤ l5 ∧ l5 ≤ 13) → 13 - l5 < (n : Int) → w_M_findsRead_l50 l2 l3 K98 Q n l4 l5 g
  | 0, l4, l5, g, I, F, b0, b1, hm => by exfalso; omega
  | n + 1, l4, l5, g, I, F, b0, b1, hm => by
    unfold w_M_findsRead_l50
    have m_5 : 0 ≤ (g 214 58) ∧ (g 214 58) ≤ 12 := I 214 58
    refine ⟨⟨by omega, by omega⟩, ⟨by omega, by omega⟩, ?_⟩
    refine ⟨fun c19 => ?_, fun c19 => ?_⟩
    · exact hK98 _ _ I F ⟨by omega, by omega⟩
    · refine k_M_minutesOf I ⟨by omega, by omega⟩ (by omega) (fun v9 b_6 => ?_)
      refine ⟨⟨by omega, by omega⟩, ?_⟩
      have m_7 : 0 ≤ (g 249 (((7 * l5) + l3) - 1)) ∧ (g 249 (((7 * l5) + l3) - 1)) ≤ 100000000 := I 249 (((7 * l5) + l3) - 1)
      refine k_M_greater I ⟨by omega, by omega⟩ ⟨by omega, by omega⟩ (fun v13 b_8 b_9 => ?_)
      refine k_M_lesser I ⟨by omega, by omega⟩ ⟨by omega, by omega⟩ (fun v16 b_10 b_11 => ?_)
      exact k_M_findsRead_l50 q2 q3 hK98 hQ n I F ⟨by omega, by omega⟩ ⟨by omega, by omega⟩ (by omega)
set_option maxRecDepth 100000 in
set_option maxHeartbeats 400000 in
theorem k_M_findsRead_l35 {l1 : Int} {l2 : Int} {K117 : zi_M → Prop} {Q : Int → zi_M → Prop} {g0 : zi_M} (q1 : 1 ≤ l1 ∧ l1 ≤ 6) (q2 : 0 ≤ l2 ∧ l2 ≤ 12) (hK117 : ∀ (g : zi_M), zk_I g → zk_fr fr_M_findsRead g0 g → K117 g) (hQ : ∀ g' : zi_M, zk_I g' → zk_fr fr_M_findsRead g0 g' → Q 0 g') : ∀ (n : Nat) {l3 : Int} {g : zi_M}, zk_I g → zk_fr fr_M_findsRead g0 g → (1 ≤ l3 ∧ l3 ≤ 7) → 7 - l3 < (n : Int) → w_M_findsRead_l35 l1 l2 K117 Q n l3 g
  | 0, l3, g, I, F, b0, hm => by exfalso; omega
  | n + 1, l3, g, I, F, b0, hm => by
    unfold w_M_findsRead_l35
    refine ⟨⟨by omega, by omega⟩, ⟨by omega, by omega⟩, ?_⟩
    refine ⟨fun c25 => ?_, fun c25 => ?_⟩
    · exact hK117 _ I F
    · refine ⟨((13 - (l2 + 1)).toNat + 1), k_M_findsRead_l50 (l2 := l2) (l3 := l3) ⟨by omega, by omega⟩ ⟨by omega, by omega⟩ (fun k20 g21 I_12 F_13 b_14 => ?_) hQ ((13 - (l2 + 1)).toNat + 1) I F ⟨by omega, by omega⟩ ⟨by omega, by omega⟩ (by omega)⟩
      refine ⟨⟨by omega, by omega⟩, ?_⟩
      intro g23 e_15
      have I_16 : zk_I g23 := by rw [e_15]; exact zk_upd (L := 0) (H := 100000000) rfl rfl I_12 ⟨by omega, by omega⟩
      have F_17 : zk_fr fr_M_findsRead g0 g23 := by rw [e_15]; exact zk_fu F_13 (by unfold fr_M_findsRead; omega)
      exact k_M_findsRead_l35 q1 q2 hK117 hQ n I_16 F_17 ⟨by omega, by omega⟩ (by omega)
set_option maxRecDepth 100000 in
set_option maxHeartbeats 400000 in
theorem k_M_findsRead_l5 {l1 : Int} {K123 : zi_M → Prop} {Q : Int → zi_M → Prop} {g0 : zi_M} (q1 : 1 ≤ l1 ∧ l1 ≤ 6) (hK123 : ∀ (g : zi_M), zk_I g → zk_fr fr_M_findsRead g0 g → K123 g) (hQ : ∀ g' : zi_M, zk_I g' → zk_fr fr_M_findsRead g0 g' → Q 0 g') : ∀ (n : Nat) {l2 : Int} {g : zi_M}, zk_I g → zk_fr fr_M_findsRead g0 g → ((-1) ≤ l2 ∧ l2 ≤ 12) → l2 - (-1) < (n : Int) → w_M_findsRead_l5 l1 K123 Q n l2 g
  | 0, l2, g, I, F, b0, hm => by exfalso; omega
  | n + 1, l2, g, I, F, b0, hm => by
    unfold w_M_findsRead_l5
    refine ⟨⟨by omega, by omega⟩, ?_⟩
    refine ⟨fun c33 => ?_, fun c33 => ?_⟩
    · exact hK123 _ I F
    · have m_1 : 0 ≤ (g 214 58) ∧ (g 214 58) ≤ 12 := I 214 58
      refine ⟨⟨by omega, by omega⟩, ?_⟩
      refine ⟨fun c32 => ?_, fun c32 => ?_⟩
      · refine ⟨⟨by omega, by omega⟩, ?_⟩
        intro g4 e_2
        have I_3 : zk_I g4 := by rw [e_2]; exact zk_upd (L := 0) (H := 100000000) rfl rfl I ⟨by omega, by omega⟩
        have F_4 : zk_fr fr_M_findsRead g0 g4 := by rw [e_2]; exact zk_fu F (by unfold fr_M_findsRead; omega)
        refine ⟨((7 - 1).toNat + 1), k_M_findsRead_l35 (l1 := l1) (l2 := l2) ⟨by omega, by omega⟩ ⟨by omega, by omega⟩ (fun g26 I_18 F_19 => ?_) hQ ((7 - 1).toNat + 1) I_3 F_4 ⟨by omega, by omega⟩ (by omega)⟩
        exact k_M_findsRead_l5 q1 hK123 hQ n I_18 F_19 ⟨by omega, by omega⟩ (by omega)
      · refine ⟨⟨by omega, by omega⟩, ?_⟩
        intro g29 e_20
        have I_21 : zk_I g29 := by rw [e_20]; exact zk_upd (L := 0) (H := 100000000) rfl rfl I ⟨by omega, by omega⟩
        have F_22 : zk_fr fr_M_findsRead g0 g29 := by rw [e_20]; exact zk_fu F (by unfold fr_M_findsRead; omega)
        refine ⟨((7 - 1).toNat + 1), k_M_findsRead_l35 (l1 := l1) (l2 := l2) ⟨by omega, by omega⟩ ⟨by omega, by omega⟩ (fun g30 I_23 F_24 => ?_) hQ ((7 - 1).toNat + 1) I_21 F_22 ⟨by omega, by omega⟩ (by omega)⟩
        exact k_M_findsRead_l5 q1 hK123 hQ n I_23 F_24 ⟨by omega, by omega⟩ (by omega)
set_option maxRecDepth 100000 in
set_option maxHeartbeats 400000 in
theorem k_M_findsRead {l1 : Int} {g : zi_M} {Q : Int → zi_M → Prop} (I : zk_I g) (p1 : 1 ≤ l1 ∧ l1 ≤ 6) (hQ : ∀ g' : zi_M, zk_I g' → zk_fr fr_M_findsRead g g' → Q 0 g') : w_M_findsRead l1 g Q := by
  unfold w_M_findsRead
  have m_27 : 0 ≤ (g 214 58) ∧ (g 214 58) ≤ 12 := I 214 58
  refine ⟨(((g 214 58) - (-1)).toNat + 1), k_M_findsRead_l5 (l1 := l1) ⟨by omega, by omega⟩ (fun g34 I_25 F_26 => ?_) hQ (((g 214 58) - (-1)).toNat + 1) I (zk_f0 _) ⟨by omega, by omega⟩ (by omega)⟩
  exact hQ _ I_25 F_26
-- SpoutNewsModel.read(II)I
def fr_M_read (a : Nat) (i : Int) : Prop := a = 249 ∨ (a = 214 ∧ i = 0)
set_option maxRecDepth 100000 in
set_option maxHeartbeats 400000 in
theorem k_M_read {l1 : Int} {l2 : Int} {g : zi_M} {Q : Int → zi_M → Prop} (I : zk_I g) (p1 : (-2147483648) ≤ l1 ∧ l1 ≤ 2147483647) (p2 : (-2147483648) ≤ l2 ∧ l2 ≤ 2147483647) (hQ : ∀ (v : Int) (g' : zi_M), zk_I g' → zk_fr fr_M_read g g' → ((-1) ≤ v) → Q v g') : w_M_read l1 l2 g Q := by
  sorry
-- SpoutNews$Thought.goodTake(LSpoutNews$World;I)I
set_option maxRecDepth 100000 in
set_option maxHeartbeats 400000 in
theorem k_Thought_goodTake_l14 {g : zi_M} (I : zk_I g) {l1 : Int} {K48 : Int → zi_M → Prop} {Q : Int → zi_M → Prop} (q1 : (-1) ≤ l1 ∧ l1 ≤ 9) (hK48 : ∀ (k2 : Int), (0 ≤ k2 ∧ k2 ≤ 3) → K48 k2 g) (hQ : ∀ v : Int, ((-1) ≤ v ∧ v ≤ 4) → Q v g) : ∀ (n : Nat) {l2 : Int} {l3 : Int}, (0 ≤ l2 ∧ l2 ≤ 3) → (0 ≤ l3 ∧ l3 ≤ 10) → 10 - l3 < (n : Int) → w_Thought_goodTake_l14 l1 K48 Q n l2 l3 g
  | 0, l2, l3, b0, b1, hm => by exfalso; omega
  | n + 1, l2, l3, b0, b1, hm => by
    unfold w_Thought_goodTake_l14
    have m_5 : 0 ≤ (g 2 8) ∧ (g 2 8) ≤ 10 := I 2 8
    refine ⟨⟨by omega, by omega⟩, ⟨by omega, by omega⟩, ?_⟩
    refine ⟨fun c10 => ?_, fun c10 => ?_⟩
    · exact hK48 _ ⟨by omega, by omega⟩
    · refine ⟨⟨by omega, by omega⟩, ?_⟩
      refine ⟨fun c9 => ?_, fun c9 => ?_⟩
      · refine ⟨⟨by omega, by omega⟩, ?_⟩
        have m_6 : 0 ≤ (g 8 l3) ∧ (g 8 l3) ≤ 20 := I 8 l3
        refine ⟨⟨by omega, by omega⟩, ?_⟩
        have m_7 := zi_tmod_f (g 8 l3) 3
        have m_8 := zi_tmod_c (g 8 l3) 3 (by decide)
        have m_9 := zi_xor_f l2 (Int.tmod (g 8 l3) 3)
        exact k_Thought_goodTake_l14 I q1 hK48 hQ n ⟨by omega, by omega⟩ ⟨by omega, by omega⟩ (by omega)
      · have m_10 := zi_xor_f l2 0
        exact k_Thought_goodTake_l14 I q1 hK48 hQ n ⟨by omega, by omega⟩ ⟨by omega, by omega⟩ (by omega)
set_option maxRecDepth 100000 in
set_option maxHeartbeats 400000 in
theorem k_Thought_goodTake_l50 {g : zi_M} (I : zk_I g) {l1 : Int} {l2 : Int} {K79 : Int → zi_M → Prop} {K88 : zi_M → Prop} {Q : Int → zi_M → Prop} (q1 : (-1) ≤ l1 ∧ l1 ≤ 9) (q2 : 0 ≤ l2 ∧ l2 ≤ 3) (hK79 : ∀ (k3 : Int), (1 ≤ k3 ∧ k3 ≤ 4) → K79 k3 g) (hK88 : K88 g) (hQ : ∀ v : Int, ((-1) ≤ v ∧ v ≤ 4) → Q v g) : ∀ (n : Nat) {l3 : Int}, (1 ≤ l3 ∧ l3 ≤ 8) → 8 - l3 < (n : Int) → w_Thought_goodTake_l50 l1 l2 K79 K88 Q n l3 g
  | 0, l3, b0, hm => by exfalso; omega
  | n + 1, l3, b0, hm => by
    unfold w_Thought_goodTake_l50
    refine ⟨⟨by omega, by omega⟩, ?_⟩
    refine ⟨fun c21 => ?_, fun c21 => ?_⟩
    · exact hK88
    · refine ⟨⟨by omega, by omega⟩, ?_⟩
      have m_12 : 0 ≤ (g 8 l1) ∧ (g 8 l1) ≤ 20 := I 8 l1
      refine ⟨⟨by omega, by omega⟩, ?_⟩
      refine ⟨fun c20 => ?_, fun c20 => ?_⟩
      · exact hK88
      · refine ⟨⟨by omega, by omega⟩, ?_⟩
        have m_13 := zi_tmod_f ((g 8 l1) - l3) 3
        have m_14 := zi_tmod_c ((g 8 l1) - l3) 3 (by decide)
        refine ⟨⟨by omega, by omega⟩, ⟨by omega, by omega⟩, ?_⟩
        refine ⟨fun c19 => ?_, fun c19 => ?_⟩
        · exact k_Thought_goodTake_l50 I q1 q2 hK79 hK88 hQ n ⟨by omega, by omega⟩ (by omega)
        · exact hK79 _ ⟨by omega, by omega⟩
set_option maxRecDepth 100000 in
set_option maxHeartbeats 400000 in
theorem k_Thought_goodTake {l1 : Int} {g : zi_M} {Q : Int → zi_M → Prop} (I : zk_I g) (p1 : (-1) ≤ l1 ∧ l1 ≤ 9) (hQ : ∀ v : Int, ((-1) ≤ v ∧ v ≤ 4) → Q v g) : w_Thought_goodTake l1 g Q := by
  unfold w_Thought_goodTake
  have m_4 : 0 ≤ (g 2 8) ∧ (g 2 8) ≤ 10 := I 2 8
  refine k_World_isSpout rfl I ⟨by omega, by omega⟩ (fun v1 b_1 b_2 b_3 => ?_)
  refine ⟨fun c27 => ?_, fun c27 => ?_⟩
  · refine ⟨((10 - 0).toNat + 1), k_Thought_goodTake_l14 (l1 := l1) I ⟨by omega, by omega⟩ (fun k11 b_11 => ?_) hQ ((10 - 0).toNat + 1) ⟨by omega, by omega⟩ ⟨by omega, by omega⟩ (by omega)⟩
    refine ⟨((8 - 1).toNat + 1), k_Thought_goodTake_l50 (l1 := l1) (l2 := k11) I ⟨by omega, by omega⟩ ⟨by omega, by omega⟩ (fun k22 b_15 => ?_) (?_) hQ ((8 - 1).toNat + 1) ⟨by omega, by omega⟩ (by omega)⟩
    · exact hQ _ ⟨by omega, by omega⟩
    · exact hQ _ ⟨by omega, by omega⟩
  · exact hQ _ ⟨by omega, by omega⟩
-- SpoutNews$Thought.goodSpout(LSpoutNews$World;)I
set_option maxRecDepth 100000 in
set_option maxHeartbeats 400000 in
theorem k_Thought_goodSpout_l2 {g : zi_M} (I : zk_I g) {K19 : Int → zi_M → Prop} {K27 : zi_M → Prop} {Q : Int → zi_M → Prop} (hK19 : ∀ (k1 : Int), (0 ≤ k1 ∧ k1 ≤ 9) → K19 k1 g) (hK27 : K27 g) (hQ : ∀ v : Int, ((-1) ≤ v ∧ v ≤ 9) → Q v g) : ∀ (n : Nat) {l1 : Int}, (0 ≤ l1 ∧ l1 ≤ 10) → 10 - l1 < (n : Int) → w_Thought_goodSpout_l2 K19 K27 Q n l1 g
  | 0, l1, b0, hm => by exfalso; omega
  | n + 1, l1, b0, hm => by
    unfold w_Thought_goodSpout_l2
    have m_1 : 0 ≤ (g 2 8) ∧ (g 2 8) ≤ 10 := I 2 8
    refine ⟨⟨by omega, by omega⟩, ⟨by omega, by omega⟩, ?_⟩
    refine ⟨fun c8 => ?_, fun c8 => ?_⟩
    · exact hK27
    · refine k_Thought_goodTake I ⟨by omega, by omega⟩ (fun v3 b_2 => ?_)
      refine ⟨⟨by omega, by omega⟩, ?_⟩
      refine ⟨fun c7 => ?_, fun c7 => ?_⟩
      · exact k_Thought_goodSpout_l2 I hK19 hK27 hQ n ⟨by omega, by omega⟩ (by omega)
      · exact hK19 _ ⟨by omega, by omega⟩
set_option maxRecDepth 100000 in
set_option maxHeartbeats 400000 in
theorem k_Thought_goodSpout {g : zi_M} {Q : Int → zi_M → Prop} (I : zk_I g) (hQ : ∀ v : Int, ((-1) ≤ v ∧ v ≤ 9) → Q v g) : w_Thought_goodSpout g Q := by
  unfold w_Thought_goodSpout
  refine ⟨((10 - 0).toNat + 1), k_Thought_goodSpout_l2 I (fun k9 b_3 => ?_) (?_) hQ ((10 - 0).toNat + 1) ⟨by omega, by omega⟩ (by omega)⟩
  · exact hQ _ ⟨by omega, by omega⟩
  · exact hQ _ ⟨by omega, by omega⟩
