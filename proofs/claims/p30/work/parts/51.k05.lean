-- by program (wip/gen/mkz.py)
-- SpoutNewsModel.goesBy()I
def fr_M_goesBy (a : Nat) (i : Int) : Prop := a = 215 ∨ a = 221 ∨ a = 235 ∨ a = 236 ∨ a = 237 ∨ a = 238 ∨ (a = 214 ∧ i = 43)
set_option maxRecDepth 100000 in
set_option maxHeartbeats 400000 in
theorem k_M_goesBy_l2 {K67 : zi_M → Prop} {Q : Int → zi_M → Prop} {g0 : zi_M} (hK67 : ∀ (g : zi_M), zk_I g → zk_fr fr_M_goesBy g0 g → K67 g) (hQ : ∀ (v : Int) (g' : zi_M), zk_I g' → zk_fr fr_M_goesBy g0 g' → ((-2147483648) ≤ v ∧ v ≤ 2147483647) → Q v g') : ∀ (n : Nat) {l1 : Int} {g : zi_M}, zk_I g → zk_fr fr_M_goesBy g0 g → (0 ≤ l1 ∧ l1 ≤ 16) → 16 - l1 < (n : Int) → w_M_goesBy_l2 K67 Q n l1 g
  | 0, l1, g, I, F, b0, hm => by exfalso; omega
  | n + 1, l1, g, I, F, b0, hm => by
    unfold w_M_goesBy_l2
    have m_1 : 0 ≤ (g 214 39) ∧ (g 214 39) ≤ 16 := I 214 39
    refine ⟨⟨by omega, by omega⟩, ⟨by omega, by omega⟩, ?_⟩
    refine ⟨fun c13 => ?_, fun c13 => ?_⟩
    · exact hK67 _ I F
    · refine ⟨⟨by omega, by omega⟩, ?_⟩
      have m_2 : (-2147483648) ≤ (g 234 (4 * l1)) ∧ (g 234 (4 * l1)) ≤ 2147483647 := I 234 (4 * l1)
      have m_3 := zk_rng I 215 0
      refine ⟨⟨by omega, by omega⟩, ⟨by omega, by omega⟩, ?_⟩
      refine ⟨fun c12 => ?_, fun c12 => ?_⟩
      · exact k_M_goesBy_l2 hK67 hQ n I F ⟨by omega, by omega⟩ (by omega)
      · refine ⟨⟨by omega, by omega⟩, ?_⟩
        refine ⟨⟨by omega, by omega⟩, ?_⟩
        refine ⟨⟨by omega, by omega⟩, ?_⟩
        have m_4 : (-2147483648) ≤ (g 234 ((4 * l1) + 1)) ∧ (g 234 ((4 * l1) + 1)) ≤ 2147483647 := I 234 ((4 * l1) + 1)
        have m_5 : (-2147483648) ≤ (g 234 ((4 * l1) + 2)) ∧ (g 234 ((4 * l1) + 2)) ≤ 2147483647 := I 234 ((4 * l1) + 2)
        have m_6 : (-2147483648) ≤ (g 234 ((4 * l1) + 3)) ∧ (g 234 ((4 * l1) + 3)) ≤ 2147483647 := I 234 ((4 * l1) + 3)
        refine k_M_acts I ⟨by omega, by omega⟩ ⟨by omega, by omega⟩ ⟨by omega, by omega⟩ (by omega) (by omega) (by omega) (by omega) (by omega) (by omega) (fun g10 I_7 F_8 => ?_)
        have F_9 : zk_fr fr_M_goesBy g0 g10 := zk_ft F F_8 (by intro a i h; unfold fr_M_acts at h; unfold fr_M_goesBy; omega)
        exact k_M_goesBy_l2 hK67 hQ n I_7 F_9 ⟨by omega, by omega⟩ (by omega)
set_option maxRecDepth 100000 in
set_option maxHeartbeats 400000 in
theorem k_M_goesBy_l118 {K137 : zi_M → Prop} {Q : Int → zi_M → Prop} {g0 : zi_M} (hK137 : ∀ (g : zi_M), zk_I g → zk_fr fr_M_goesBy g0 g → K137 g) (hQ : ∀ (v : Int) (g' : zi_M), zk_I g' → zk_fr fr_M_goesBy g0 g' → ((-2147483648) ≤ v ∧ v ≤ 2147483647) → Q v g') : ∀ (n : Nat) {l2 : Int} {g : zi_M}, zk_I g → zk_fr fr_M_goesBy g0 g → (0 ≤ l2 ∧ l2 ≤ 10) → 10 - l2 < (n : Int) → w_M_goesBy_l118 K137 Q n l2 g
  | 0, l2, g, I, F, b0, hm => by exfalso; omega
  | n + 1, l2, g, I, F, b0, hm => by
    unfold w_M_goesBy_l118
    have m_15 : 0 ≤ (g 214 6) ∧ (g 214 6) ≤ 10 := I 214 6
    refine ⟨⟨by omega, by omega⟩, ⟨by omega, by omega⟩, ?_⟩
    refine ⟨fun c25 => ?_, fun c25 => ?_⟩
    · exact hK137 _ I F
    · refine k_M_isDry I ⟨by omega, by omega⟩ (fun g23 I_16 F_17 => ?_)
      have F_18 : zk_fr fr_M_goesBy g0 g23 := zk_ft F F_17 (by intro a i h; unfold fr_M_isDry at h; unfold fr_M_goesBy; omega)
      exact k_M_goesBy_l118 hK137 hQ n I_16 F_18 ⟨by omega, by omega⟩ (by omega)
set_option maxRecDepth 100000 in
set_option maxHeartbeats 400000 in
theorem k_M_goesBy_b137 {l1 : Int} {Q : Int → zi_M → Prop} {g : zi_M} {g0 : zi_M} (I : zk_I g) (F : zk_fr fr_M_goesBy g0 g) (p1 : (-2147483648) ≤ l1 ∧ l1 ≤ 2147483647) (hQ : ∀ (v : Int) (g' : zi_M), zk_I g' → zk_fr fr_M_goesBy g0 g' → ((-2147483648) ≤ v ∧ v ≤ 2147483647) → Q v g') : w_M_goesBy_b137 l1 g Q := by
  unfold w_M_goesBy_b137
  have m_24 := zk_rng I 215 0
  have m_25 := zi_r_w ((g 215 0) + 1)
  intro g27 e_21
  have I_22 : zk_I g27 := by rw [e_21]; exact zk_upd (zk_nl0 (i := 0) (by omega)).1 (zk_nl0 (i := 0) (by omega)).2 I ⟨by omega, by omega⟩
  have F_23 : zk_fr fr_M_goesBy g0 g27 := by rw [e_21]; exact zk_fu F (by unfold fr_M_goesBy; omega)
  exact hQ _ _ I_22 F_23 ⟨by omega, by omega⟩
set_option maxRecDepth 100000 in
set_option maxHeartbeats 400000 in
theorem k_M_goesBy_b97 {Q : Int → zi_M → Prop} {g : zi_M} {g0 : zi_M} (I : zk_I g) (F : zk_fr fr_M_goesBy g0 g) (hQ : ∀ (v : Int) (g' : zi_M), zk_I g' → zk_fr fr_M_goesBy g0 g' → ((-2147483648) ≤ v ∧ v ≤ 2147483647) → Q v g') : w_M_goesBy_b97 g Q := by
  unfold w_M_goesBy_b97
  have m_14 := zk_rng I 215 3
  refine ⟨⟨by omega, by omega⟩, ?_⟩
  refine ⟨fun c32 => ?_, fun c32 => ?_⟩
  · refine ⟨((10 - 0).toNat + 1), k_M_goesBy_l118 (fun g26 I_19 F_20 => ?_) hQ ((10 - 0).toNat + 1) I F ⟨by omega, by omega⟩ (by omega)⟩
    exact k_M_goesBy_b137 I_19 F_20 ⟨by omega, by omega⟩ hQ
  · refine k_M_rains I (fun v29 g30 I_27 F_28 b_26 => ?_)
    have F_29 : zk_fr fr_M_goesBy g0 g30 := zk_ft F F_28 (by intro a i h; unfold fr_M_rains at h; unfold fr_M_goesBy; omega)
    exact k_M_goesBy_b137 I_27 F_29 ⟨by omega, by omega⟩ hQ
set_option maxRecDepth 100000 in
set_option maxHeartbeats 400000 in
theorem k_M_goesBy {g : zi_M} {Q : Int → zi_M → Prop} (I : zk_I g) (hQ : ∀ (v : Int) (g' : zi_M), zk_I g' → zk_fr fr_M_goesBy g g' → ((-2147483648) ≤ v ∧ v ≤ 2147483647) → Q v g') : w_M_goesBy g Q := by
  unfold w_M_goesBy
  refine ⟨((16 - 0).toNat + 1), k_M_goesBy_l2 (fun g14 I_10 F_11 => ?_) hQ ((16 - 0).toNat + 1) I (zk_f0 _) ⟨by omega, by omega⟩ (by omega)⟩
  have m_12 := zk_rng I_10 215 0
  refine k_M_weatherOf I_10 ⟨by omega, by omega⟩ (fun v15 b_13 => ?_)
  refine ⟨⟨by omega, by omega⟩, ?_⟩
  refine ⟨fun c37 => ?_, fun c37 => ?_⟩
  · exact k_M_goesBy_b97 I_10 F_11 hQ
  · refine k_M_weatherOf I_10 ⟨by omega, by omega⟩ (fun v33 b_30 => ?_)
    intro g36 e_31
    have I_32 : zk_I g36 := by rw [e_31]; exact zk_upd (zk_nl3 (i := 3) (by omega)).1 (zk_nl3 (i := 3) (by omega)).2 I_10 ⟨by omega, by omega⟩
    have F_33 : zk_fr fr_M_goesBy g g36 := by rw [e_31]; exact zk_fu F_11 (by unfold fr_M_goesBy; omega)
    exact k_M_goesBy_b97 I_32 F_33 hQ
-- SpoutNewsModel.days(I)I
def fr_M_days (a : Nat) (i : Int) : Prop := a = 215 ∨ a = 216 ∨ a = 221 ∨ a = 235 ∨ a = 236 ∨ a = 237 ∨ a = 238 ∨ (a = 214 ∧ i = 0) ∨ (a = 214 ∧ i = 3) ∨ (a = 214 ∧ i = 43)
set_option maxRecDepth 100000 in
set_option maxHeartbeats 400000 in
theorem k_M_days_l36 {l1 : Int} {K58 : Int → zi_M → Prop} {Q : Int → zi_M → Prop} {g0 : zi_M} (q1 : (-2147483648) ≤ l1 ∧ l1 ≤ 2147483647) (hK58 : ∀ (k2 : Int) (g : zi_M), zk_I g → zk_fr fr_M_days g0 g → ((-2147483648) ≤ k2 ∧ k2 ≤ 2147483647) → K58 k2 g) (hQ : ∀ (v : Int) (g' : zi_M), zk_I g' → zk_fr fr_M_days g0 g' → ((-2147483648) ≤ v ∧ v ≤ 2147483647) → Q v g') : ∀ (n : Nat) {l2 : Int} {l3 : Int} {g : zi_M}, zk_I g → zk_fr fr_M_days g0 g → ((-2147483648) ≤ l2 ∧ l2 ≤ 2147483647) → (0 ≤ l3) → l1 - l3 < (n : Int) → w_M_days_l36 l1 K58 Q n l2 l3 g
  | 0, l2, l3, g, I, F, b0, b1, hm => by exfalso; omega
  | n + 1, l2, l3, g, I, F, b0, b1, hm => by
    unfold w_M_days_l36
    refine ⟨⟨by omega, by omega⟩, ⟨by omega, by omega⟩, ?_⟩
    refine ⟨fun c13 => ?_, fun c13 => ?_⟩
    · exact hK58 _ _ I F ⟨by omega, by omega⟩
    · refine k_M_keepsAhead I (fun g8 I_11 F_12 => ?_)
      have F_13 : zk_fr fr_M_days g0 g8 := zk_ft F F_12 (by intro a i h; unfold fr_M_keepsAhead at h; unfold fr_M_days; omega)
      refine k_M_goesBy I_11 (fun v10 g11 I_15 F_16 b_14 => ?_)
      have F_17 : zk_fr fr_M_days g0 g11 := zk_ft F_13 F_16 (by intro a i h; unfold fr_M_goesBy at h; unfold fr_M_days; omega)
      have m_18 := zi_r_w (l2 + v10)
      exact k_M_days_l36 q1 hK58 hQ n I_15 F_17 ⟨by omega, by omega⟩ (by omega) (by omega)
set_option maxRecDepth 100000 in
set_option maxHeartbeats 400000 in
theorem k_M_days {l1 : Int} {g : zi_M} {Q : Int → zi_M → Prop} (I : zk_I g) (p1 : (-2147483648) ≤ l1 ∧ l1 ≤ 2147483647) (hQ : ∀ (v : Int) (g' : zi_M), zk_I g' → zk_fr fr_M_days g g' → ((-2147483648) ≤ v ∧ v ≤ 2147483647) → Q v g') : w_M_days l1 g Q := by
  unfold w_M_days
  intro g1 e_1
  have I_2 : zk_I g1 := by rw [e_1]; exact zk_upd (L := (-2147483648)) (H := 2147483647) rfl rfl I ⟨by omega, by omega⟩
  have F_3 : zk_fr fr_M_days g g1 := by rw [e_1]; exact zk_fu (zk_f0 _) (by unfold fr_M_days; omega)
  refine k_M_isIn I_2 ⟨by omega, by omega⟩ ⟨by omega, by omega⟩ ⟨by omega, by omega⟩ (fun v2 b_4 b_5 b_6 => ?_)
  refine ⟨fun c18 => ?_, fun c18 => ?_⟩
  · exact hQ _ _ I_2 F_3 ⟨by omega, by omega⟩
  · have m_7 := zk_rng I_2 215 0
    have m_8 : g1 215 0 = g 215 0 := by rw [e_1]; exact zi_u_ne (by decide)
    have m_9 := zk_rng I 215 0
    have m_10 := zi_r_w ((g1 215 0) + l1)
    refine ⟨fun c17 => ?_, fun c17 => ?_⟩
    · refine ⟨((l1 - 0).toNat + 1), k_M_days_l36 (l1 := l1) ⟨by omega, by omega⟩ (fun k14 g15 I_19 F_20 b_21 => ?_) hQ ((l1 - 0).toNat + 1) I_2 F_3 ⟨by omega, by omega⟩ (by omega) (by omega)⟩
      exact hQ _ _ I_19 F_20 ⟨by omega, by omega⟩
    · exact hQ _ _ I_2 F_3 ⟨by omega, by omega⟩
-- SpoutNews.feedFour(I)V
def fr_S_feedFour (a : Nat) (i : Int) : Prop := a = 190 ∨ (a = 0 ∧ i = 8)
set_option maxRecDepth 100000 in
set_option maxHeartbeats 400000 in
theorem k_S_feedFour_l3 {l1 : Int} {K49 : zi_M → Prop} {Q : Int → zi_M → Prop} {g0 : zi_M} (q1 : (-2147483648) ≤ l1 ∧ l1 ≤ 2147483647) (hK49 : ∀ (g : zi_M), zk_I g → zk_fr fr_S_feedFour g0 g → K49 g) (hQ : ∀ g' : zi_M, zk_I g' → zk_fr fr_S_feedFour g0 g' → Q 0 g') : ∀ (n : Nat) {l2 : Int} {g : zi_M}, zk_I g → zk_fr fr_S_feedFour g0 g → ((-8) ≤ l2 ∧ l2 ≤ 24) → l2 - (-8) < (n : Int) → w_S_feedFour_l3 l1 K49 Q n l2 g
  | 0, l2, g, I, F, b0, hm => by exfalso; omega
  | n + 1, l2, g, I, F, b0, hm => by
    unfold w_S_feedFour_l3
    refine ⟨⟨by omega, by omega⟩, ?_⟩
    refine ⟨fun c7 => ?_, fun c7 => ?_⟩
    · exact hK49 _ I F
    · have m_1 : 0 ≤ (g 0 8) ∧ (g 0 8) ≤ 400 := I 0 8
      refine ⟨⟨by omega, by omega⟩, ?_⟩
      refine ⟨fun c6 => ?_, fun c6 => ?_⟩
      · exact hK49 _ I F
      · refine ⟨⟨by omega, by omega⟩, ?_⟩
        have m_5 := zi_ush_f l1 l2
        have m_6 := zi_and_f (zi_ush l1 l2) 255
        intro g4 e_2
        have I_3 : zk_I g4 := by rw [e_2]; exact zk_upd (L := 0) (H := 255) rfl rfl I ⟨by omega, by omega⟩
        have F_4 : zk_fr fr_S_feedFour g0 g4 := by rw [e_2]; exact zk_fu F (by unfold fr_S_feedFour; omega)
        have m_10 : 0 ≤ (g4 0 8) ∧ (g4 0 8) ≤ 400 := I_3 0 8
        have m_11 : g4 0 8 = g 0 8 := by rw [e_2]; exact zi_u_ne (by decide)
        intro g5 e_7
        have I_8 : zk_I g5 := by rw [e_7]; exact zk_upd (L := 0) (H := 400) rfl rfl I_3 ⟨by omega, by omega⟩
        have F_9 : zk_fr fr_S_feedFour g0 g5 := by rw [e_7]; exact zk_fu F_4 (by unfold fr_S_feedFour; omega)
        exact k_S_feedFour_l3 q1 hK49 hQ n I_8 F_9 ⟨by omega, by omega⟩ (by omega)
set_option maxRecDepth 100000 in
set_option maxHeartbeats 400000 in
theorem k_S_feedFour {l1 : Int} {g : zi_M} {Q : Int → zi_M → Prop} (I : zk_I g) (p1 : (-2147483648) ≤ l1 ∧ l1 ≤ 2147483647) (hQ : ∀ g' : zi_M, zk_I g' → zk_fr fr_S_feedFour g g' → Q 0 g') : w_S_feedFour l1 g Q := by
  unfold w_S_feedFour
  refine ⟨((24 - (-8)).toNat + 1), k_S_feedFour_l3 (l1 := l1) ⟨by omega, by omega⟩ (fun g8 I_12 F_13 => ?_) hQ ((24 - (-8)).toNat + 1) I (zk_f0 _) ⟨by omega, by omega⟩ (by omega)⟩
  exact hQ _ I_12 F_13
-- SpoutNews.feed(IIIII)I
def fr_S_feed (a : Nat) (i : Int) : Prop := a = 190 ∨ (a = 0 ∧ i = 8)
set_option maxRecDepth 100000 in
set_option maxHeartbeats 400000 in
theorem k_S_feed {l1 : Int} {l2 : Int} {l3 : Int} {l4 : Int} {l5 : Int} {g : zi_M} {Q : Int → zi_M → Prop} (I : zk_I g) (p1 : (-2147483648) ≤ l1 ∧ l1 ≤ 2147483647) (p2 : (-2147483648) ≤ l2 ∧ l2 ≤ 2147483647) (p3 : (-2147483648) ≤ l3 ∧ l3 ≤ 2147483647) (p4 : (-2147483648) ≤ l4 ∧ l4 ≤ 2147483647) (p5 : (-2147483648) ≤ l5 ∧ l5 ≤ 2147483647) (hQ : ∀ (v : Int) (g' : zi_M), zk_I g' → zk_fr fr_S_feed g g' → ((-1) ≤ v ∧ v ≤ 400) → Q v g') : w_S_feed l1 l2 l3 l4 l5 g Q := by
  unfold w_S_feed
  have m_1 : 0 ≤ (g 0 8) ∧ (g 0 8) ≤ 400 := I 0 8
  refine ⟨⟨by omega, by omega⟩, ?_⟩
  refine ⟨fun c17 => ?_, fun c17 => ?_⟩
  · refine k_S_feedFour I ⟨by omega, by omega⟩ (fun g3 I_2 F_3 => ?_)
    have F_4 : zk_fr fr_S_feed g g3 := zk_ft (zk_f0 _) F_3 (by intro a i h; unfold fr_S_feedFour at h; unfold fr_S_feed; omega)
    refine k_S_feedFour I_2 ⟨by omega, by omega⟩ (fun g6 I_5 F_6 => ?_)
    have F_7 : zk_fr fr_S_feed g g6 := zk_ft F_4 F_6 (by intro a i h; unfold fr_S_feedFour at h; unfold fr_S_feed; omega)
    refine k_S_feedFour I_5 ⟨by omega, by omega⟩ (fun g9 I_8 F_9 => ?_)
    have F_10 : zk_fr fr_S_feed g g9 := zk_ft F_7 F_9 (by intro a i h; unfold fr_S_feedFour at h; unfold fr_S_feed; omega)
    refine k_S_feedFour I_8 ⟨by omega, by omega⟩ (fun g12 I_11 F_12 => ?_)
    have F_13 : zk_fr fr_S_feed g g12 := zk_ft F_10 F_12 (by intro a i h; unfold fr_S_feedFour at h; unfold fr_S_feed; omega)
    refine k_S_feedFour I_11 ⟨by omega, by omega⟩ (fun g15 I_14 F_15 => ?_)
    have F_16 : zk_fr fr_S_feed g g15 := zk_ft F_13 F_15 (by intro a i h; unfold fr_S_feedFour at h; unfold fr_S_feed; omega)
    have m_17 : 0 ≤ (g15 0 8) ∧ (g15 0 8) ≤ 400 := I_14 0 8
    exact hQ _ _ I_14 F_16 ⟨by omega, by omega⟩
  · exact hQ _ _ I (zk_f0 _) ⟨by omega, by omega⟩
-- SpoutNewsModel.types(I)V
def fr_M_types (a : Nat) (i : Int) : Prop := a = 222 ∨ (a = 214 ∧ i = 13)
set_option maxRecDepth 100000 in
set_option maxHeartbeats 400000 in
theorem k_M_types_l3 {l1 : Int} {K39 : zi_M → Prop} {Q : Int → zi_M → Prop} {g0 : zi_M} (q1 : (-2147483648) ≤ l1 ∧ l1 ≤ 2147483647) (hK39 : ∀ (g : zi_M), zk_I g → zk_fr fr_M_types g0 g → K39 g) (hQ : ∀ g' : zi_M, zk_I g' → zk_fr fr_M_types g0 g' → Q 0 g') : ∀ (n : Nat) {l2 : Int} {g : zi_M}, zk_I g → zk_fr fr_M_types g0 g → ((-8) ≤ l2 ∧ l2 ≤ 24) → l2 - (-8) < (n : Int) → w_M_types_l3 l1 K39 Q n l2 g
  | 0, l2, g, I, F, b0, hm => by exfalso; omega
  | n + 1, l2, g, I, F, b0, hm => by
    unfold w_M_types_l3
    refine ⟨⟨by omega, by omega⟩, ?_⟩
    refine ⟨fun c5 => ?_, fun c5 => ?_⟩
    · exact hK39 _ I F
    · have m_4 : 0 ≤ (g 214 13) ∧ (g 214 13) ≤ 400 := I 214 13
      refine ⟨⟨by omega, by omega⟩, ?_⟩
      have m_5 := zi_shr_f l1 l2
      have m_6 := zi_and_f (zi_shr l1 l2) 255
      intro g3 e_1
      have I_2 : zk_I g3 := by rw [e_1]; exact zk_upd (L := 0) (H := 255) rfl rfl I ⟨by omega, by omega⟩
      have F_3 : zk_fr fr_M_types g0 g3 := by rw [e_1]; exact zk_fu F (by unfold fr_M_types; omega)
      have m_10 : 0 ≤ (g3 214 13) ∧ (g3 214 13) ≤ 400 := I_2 214 13
      have m_11 : g3 214 13 = g 214 13 := by rw [e_1]; exact zi_u_ne (by decide)
      intro g4 e_7
      have I_8 : zk_I g4 := by rw [e_7]; exact zk_upd (L := 0) (H := 400) rfl rfl I_2 ⟨by omega, by omega⟩
      have F_9 : zk_fr fr_M_types g0 g4 := by rw [e_7]; exact zk_fu F_3 (by unfold fr_M_types; omega)
      exact k_M_types_l3 q1 hK39 hQ n I_8 F_9 ⟨by omega, by omega⟩ (by omega)
set_option maxRecDepth 100000 in
set_option maxHeartbeats 400000 in
theorem k_M_types {l1 : Int} {g : zi_M} {Q : Int → zi_M → Prop} (I : zk_I g) (p1 : (-2147483648) ≤ l1 ∧ l1 ≤ 2147483647) (hQ : ∀ g' : zi_M, zk_I g' → zk_fr fr_M_types g g' → Q 0 g') : w_M_types l1 g Q := by
  unfold w_M_types
  refine ⟨((24 - (-8)).toNat + 1), k_M_types_l3 (l1 := l1) ⟨by omega, by omega⟩ (fun g6 I_12 F_13 => ?_) hQ ((24 - (-8)).toNat + 1) I (zk_f0 _) ⟨by omega, by omega⟩ (by omega)⟩
  exact hQ _ I_12 F_13
-- SpoutNewsModel.feed(IIIII)I
def fr_M_feed (a : Nat) (i : Int) : Prop := a = 222 ∨ (a = 214 ∧ i = 0) ∨ (a = 214 ∧ i = 13)
set_option maxRecDepth 100000 in
set_option maxHeartbeats 400000 in
theorem k_M_feed {l1 : Int} {l2 : Int} {l3 : Int} {l4 : Int} {l5 : Int} {g : zi_M} {Q : Int → zi_M → Prop} (I : zk_I g) (p1 : (-2147483648) ≤ l1 ∧ l1 ≤ 2147483647) (p2 : (-2147483648) ≤ l2 ∧ l2 ≤ 2147483647) (p3 : (-2147483648) ≤ l3 ∧ l3 ≤ 2147483647) (p4 : (-2147483648) ≤ l4 ∧ l4 ≤ 2147483647) (p5 : (-2147483648) ≤ l5 ∧ l5 ≤ 2147483647) (hQ : ∀ (v : Int) (g' : zi_M), zk_I g' → zk_fr fr_M_feed g g' → ((-1) ≤ v ∧ v ≤ 400) → Q v g') : w_M_feed l1 l2 l3 l4 l5 g Q := by
  unfold w_M_feed
  intro g1 e_1
  have I_2 : zk_I g1 := by rw [e_1]; exact zk_upd (L := (-2147483648)) (H := 2147483647) rfl rfl I ⟨by omega, by omega⟩
  have F_3 : zk_fr fr_M_feed g g1 := by rw [e_1]; exact zk_fu (zk_f0 _) (by unfold fr_M_feed; omega)
  have m_4 : 0 ≤ (g1 214 13) ∧ (g1 214 13) ≤ 400 := I_2 214 13
  have m_5 : g1 214 13 = g 214 13 := by rw [e_1]; exact zi_u_ni (by decide)
  have m_6 : 0 ≤ (g 214 13) ∧ (g 214 13) ≤ 400 := I 214 13
  refine ⟨⟨by omega, by omega⟩, ?_⟩
  refine ⟨fun c18 => ?_, fun c18 => ?_⟩
  · refine k_M_types I_2 ⟨by omega, by omega⟩ (fun g4 I_7 F_8 => ?_)
    have F_9 : zk_fr fr_M_feed g g4 := zk_ft F_3 F_8 (by intro a i h; unfold fr_M_types at h; unfold fr_M_feed; omega)
    refine k_M_types I_7 ⟨by omega, by omega⟩ (fun g7 I_10 F_11 => ?_)
    have F_12 : zk_fr fr_M_feed g g7 := zk_ft F_9 F_11 (by intro a i h; unfold fr_M_types at h; unfold fr_M_feed; omega)
    refine k_M_types I_10 ⟨by omega, by omega⟩ (fun g10 I_13 F_14 => ?_)
    have F_15 : zk_fr fr_M_feed g g10 := zk_ft F_12 F_14 (by intro a i h; unfold fr_M_types at h; unfold fr_M_feed; omega)
    refine k_M_types I_13 ⟨by omega, by omega⟩ (fun g13 I_16 F_17 => ?_)
    have F_18 : zk_fr fr_M_feed g g13 := zk_ft F_15 F_17 (by intro a i h; unfold fr_M_types at h; unfold fr_M_feed; omega)
    refine k_M_types I_16 ⟨by omega, by omega⟩ (fun g16 I_19 F_20 => ?_)
    have F_21 : zk_fr fr_M_feed g g16 := zk_ft F_18 F_20 (by intro a i h; unfold fr_M_types at h; unfold fr_M_feed; omega)
    have m_22 : 0 ≤ (g16 214 13) ∧ (g16 214 13) ≤ 400 := I_19 214 13
    exact hQ _ _ I_19 F_21 ⟨by omega, by omega⟩
  · exact hQ _ _ I_2 F_3 ⟨by omega, by omega⟩
-- SpoutNews.end(I)Z
def fr_S_end (a : Nat) (i : Int) : Prop := (a = 0 ∧ i = 8)
set_option maxRecDepth 100000 in
set_option maxHeartbeats 400000 in
theorem k_S_end {l1 : Int} {g : zi_M} {Q : Int → zi_M → Prop} (I : zk_I g) (p1 : (-2147483648) ≤ l1 ∧ l1 ≤ 2147483647) (hQ : ∀ (v : Int) (g' : zi_M), zk_I g' → zk_fr fr_S_end g g' → (0 ≤ v ∧ v ≤ 1) → Q v g') : w_S_end l1 g Q := by
  unfold w_S_end
  refine ⟨⟨by omega, by omega⟩, ?_⟩
  refine ⟨fun c5 => ?_, fun c5 => ?_⟩
  · exact hQ _ _ I (zk_f0 _) ⟨by omega, by omega⟩
  · have m_1 : 0 ≤ (g 0 8) ∧ (g 0 8) ≤ 400 := I 0 8
    refine ⟨⟨by omega, by omega⟩, ?_⟩
    refine ⟨fun c4 => ?_, fun c4 => ?_⟩
    · intro g3 e_2
      have I_3 : zk_I g3 := by rw [e_2]; exact zk_upd (L := 0) (H := 400) rfl rfl I ⟨by omega, by omega⟩
      have F_4 : zk_fr fr_S_end g g3 := by rw [e_2]; exact zk_fu (zk_f0 _) (by unfold fr_S_end; omega)
      exact hQ _ _ I_3 F_4 ⟨by omega, by omega⟩
    · exact hQ _ _ I (zk_f0 _) ⟨by omega, by omega⟩
-- SpoutNewsModel.end(I)Z
def fr_M_end (a : Nat) (i : Int) : Prop := (a = 214 ∧ i = 0) ∨ (a = 214 ∧ i = 13)
set_option maxRecDepth 100000 in
set_option maxHeartbeats 400000 in
theorem k_M_end {l1 : Int} {g : zi_M} {Q : Int → zi_M → Prop} (I : zk_I g) (p1 : (-2147483648) ≤ l1 ∧ l1 ≤ 2147483647) (hQ : ∀ (v : Int) (g' : zi_M), zk_I g' → zk_fr fr_M_end g g' → (0 ≤ v ∧ v ≤ 1) → Q v g') : w_M_end l1 g Q := by
  unfold w_M_end
  intro g1 e_1
  have I_2 : zk_I g1 := by rw [e_1]; exact zk_upd (L := (-2147483648)) (H := 2147483647) rfl rfl I ⟨by omega, by omega⟩
  have F_3 : zk_fr fr_M_end g g1 := by rw [e_1]; exact zk_fu (zk_f0 _) (by unfold fr_M_end; omega)
  have m_4 : 0 ≤ (g1 214 13) ∧ (g1 214 13) ≤ 400 := I_2 214 13
  have m_5 : g1 214 13 = g 214 13 := by rw [e_1]; exact zi_u_ni (by decide)
  have m_6 : 0 ≤ (g 214 13) ∧ (g 214 13) ≤ 400 := I 214 13
  refine k_M_isIn I_2 ⟨by omega, by omega⟩ ⟨by omega, by omega⟩ ⟨by omega, by omega⟩ (fun v2 b_7 b_8 b_9 => ?_)
  refine ⟨fun c6 => ?_, fun c6 => ?_⟩
  · intro g5 e_10
    have I_11 : zk_I g5 := by rw [e_10]; exact zk_upd (L := 0) (H := 400) rfl rfl I_2 ⟨by omega, by omega⟩
    have F_12 : zk_fr fr_M_end g g5 := by rw [e_10]; exact zk_fu F_3 (by unfold fr_M_end; omega)
    exact hQ _ _ I_11 F_12 ⟨by omega, by omega⟩
  · exact hQ _ _ I_2 F_3 ⟨by omega, by omega⟩
-- SpoutNews$Tokens.clear()V
def fr_Tokens_clear (a : Nat) (i : Int) : Prop := (a = 191 ∧ i = 3) ∨ (a = 191 ∧ i = 4) ∨ (a = 191 ∧ i = 5) ∨ (a = 191 ∧ i = 6)
set_option maxRecDepth 100000 in
set_option maxHeartbeats 400000 in
theorem k_Tokens_clear {g : zi_M} {Q : Int → zi_M → Prop} (I : zk_I g) (hQ : ∀ g' : zi_M, zk_I g' → zk_fr fr_Tokens_clear g g' → Q 0 g') : w_Tokens_clear g Q := by
  unfold w_Tokens_clear
  intro g1 e_1
  have I_2 : zk_I g1 := by rw [e_1]; exact zk_upd (L := 0) (H := 401) rfl rfl I ⟨by omega, by omega⟩
  have F_3 : zk_fr fr_Tokens_clear g g1 := by rw [e_1]; exact zk_fu (zk_f0 _) (by unfold fr_Tokens_clear; omega)
  intro g2 e_4
  have I_5 : zk_I g2 := by rw [e_4]; exact zk_upd (L := 0) (H := 401) rfl rfl I_2 ⟨by omega, by omega⟩
  have F_6 : zk_fr fr_Tokens_clear g g2 := by rw [e_4]; exact zk_fu F_3 (by unfold fr_Tokens_clear; omega)
  intro g3 e_7
  have I_8 : zk_I g3 := by rw [e_7]; exact zk_upd (L := 0) (H := 3) rfl rfl I_5 ⟨by omega, by omega⟩
  have F_9 : zk_fr fr_Tokens_clear g g3 := by rw [e_7]; exact zk_fu F_6 (by unfold fr_Tokens_clear; omega)
  intro g4 e_10
  have I_11 : zk_I g4 := by rw [e_10]; exact zk_upd (L := (-1)) (H := 400) rfl rfl I_8 ⟨by omega, by omega⟩
  have F_12 : zk_fr fr_Tokens_clear g g4 := by rw [e_10]; exact zk_fu F_9 (by unfold fr_Tokens_clear; omega)
  exact hQ _ I_11 F_12
-- SpoutNews$Tokens.isLetter(I)Z
set_option maxRecDepth 100000 in
set_option maxHeartbeats 400000 in
theorem k_Tokens_isLetter_b12 {l0 : Int} {Q : Int → zi_M → Prop} {g : zi_M} (I : zk_I g) (p0 : 0 ≤ l0 ∧ l0 ≤ 255) (hQ : ∀ v : Int, (l0 < 97 → l0 < 65 → v = 0) → (l0 < 97 → 65 ≤ l0 → 90 < l0 → v = 0) → (l0 < 97 → 65 ≤ l0 → l0 ≤ 90 → v = 1) → (97 ≤ l0 → l0 ≤ 122 → v = 1) → (97 ≤ l0 → 122 < l0 → l0 < 65 → v = 0) → (97 ≤ l0 → 122 < l0 → 65 ≤ l0 → 90 < l0 → v = 0) → (97 ≤ l0 → 122 < l0 → 65 ≤ l0 → l0 ≤ 90 → v = 1) → Q v g) : w_Tokens_isLetter_b12 l0 g Q := by
  unfold w_Tokens_isLetter_b12
  refine ⟨⟨by omega, by omega⟩, ?_⟩
  refine ⟨fun c4 => ?_, fun c4 => ?_⟩
  · exact hQ _ (by intros; omega) (by intros; omega) (by intros; omega) (by intros; omega) (by intros; omega) (by intros; omega) (by intros; omega)
  · refine ⟨fun c3 => ?_, fun c3 => ?_⟩
    · exact hQ _ (by intros; omega) (by intros; omega) (by intros; omega) (by intros; omega) (by intros; omega) (by intros; omega) (by intros; omega)
    · exact hQ _ (by intros; omega) (by intros; omega) (by intros; omega) (by intros; omega) (by intros; omega) (by intros; omega) (by intros; omega)
set_option maxRecDepth 100000 in
set_option maxHeartbeats 400000 in
theorem k_Tokens_isLetter {l0 : Int} {g : zi_M} {Q : Int → zi_M → Prop} (I : zk_I g) (p0 : 0 ≤ l0 ∧ l0 ≤ 255) (hQ : ∀ v : Int, (l0 < 97 → l0 < 65 → v = 0) → (l0 < 97 → 65 ≤ l0 → 90 < l0 → v = 0) → (l0 < 97 → 65 ≤ l0 → l0 ≤ 90 → v = 1) → (97 ≤ l0 → l0 ≤ 122 → v = 1) → (97 ≤ l0 → 122 < l0 → l0 < 65 → v = 0) → (97 ≤ l0 → 122 < l0 → 65 ≤ l0 → 90 < l0 → v = 0) → (97 ≤ l0 → 122 < l0 → 65 ≤ l0 → l0 ≤ 90 → v = 1) → Q v g) : w_Tokens_isLetter l0 g Q := by
  unfold w_Tokens_isLetter
  refine ⟨⟨by omega, by omega⟩, ?_⟩
  refine ⟨fun c6 => ?_, fun c6 => ?_⟩
  · exact k_Tokens_isLetter_b12 I ⟨by omega, by omega⟩ hQ
  · refine ⟨fun c5 => ?_, fun c5 => ?_⟩
    · exact hQ _ (by intros; omega) (by intros; omega) (by intros; omega) (by intros; omega) (by intros; omega) (by intros; omega) (by intros; omega)
    · exact k_Tokens_isLetter_b12 I ⟨by omega, by omega⟩ hQ
-- SpoutNews$Tokens.isDigit(I)Z
set_option maxRecDepth 100000 in
set_option maxHeartbeats 400000 in
theorem k_Tokens_isDigit {l0 : Int} {g : zi_M} {Q : Int → zi_M → Prop} (I : zk_I g) (p0 : 0 ≤ l0 ∧ l0 ≤ 255) (hQ : ∀ v : Int, (l0 < 48 → v = 0) → (48 ≤ l0 → 57 < l0 → v = 0) → (48 ≤ l0 → l0 ≤ 57 → v = 1) → Q v g) : w_Tokens_isDigit l0 g Q := by
  unfold w_Tokens_isDigit
  refine ⟨⟨by omega, by omega⟩, ?_⟩
  refine ⟨fun c3 => ?_, fun c3 => ?_⟩
  · exact hQ _ (by intros; omega) (by intros; omega) (by intros; omega)
  · refine ⟨fun c2 => ?_, fun c2 => ?_⟩
    · exact hQ _ (by intros; omega) (by intros; omega) (by intros; omega)
    · exact hQ _ (by intros; omega) (by intros; omega) (by intros; omega)
-- SpoutNews$Tokens.isSignOfLaw(I)Z
set_option maxRecDepth 100000 in
set_option maxHeartbeats 400000 in
theorem k_Tokens_isSignOfLaw {l0 : Int} {g : zi_M} {Q : Int → zi_M → Prop} (I : zk_I g) (p0 : 0 ≤ l0 ∧ l0 ≤ 255) (hQ : ∀ v : Int, (l0 = 59 → v = 1) → (¬ l0 = 59 → l0 = 43 → v = 1) → (¬ l0 = 59 → ¬ l0 = 43 → l0 = 45 → v = 1) → (¬ l0 = 59 → ¬ l0 = 43 → ¬ l0 = 45 → l0 = 42 → v = 1) → (¬ l0 = 59 → ¬ l0 = 43 → ¬ l0 = 45 → ¬ l0 = 42 → l0 = 47 → v = 1) → (¬ l0 = 59 → ¬ l0 = 43 → ¬ l0 = 45 → ¬ l0 = 42 → ¬ l0 = 47 → l0 = 40 → v = 1) → (¬ l0 = 59 → ¬ l0 = 43 → ¬ l0 = 45 → ¬ l0 = 42 → ¬ l0 = 47 → ¬ l0 = 40 → l0 = 41 → v = 1) → (¬ l0 = 59 → ¬ l0 = 43 → ¬ l0 = 45 → ¬ l0 = 42 → ¬ l0 = 47 → ¬ l0 = 40 → ¬ l0 = 41 → l0 = 60 → v = 1) → (¬ l0 = 59 → ¬ l0 = 43 → ¬ l0 = 45 → ¬ l0 = 42 → ¬ l0 = 47 → ¬ l0 = 40 → ¬ l0 = 41 → ¬ l0 = 60 → l0 = 61 → v = 1) → (¬ l0 = 59 → ¬ l0 = 43 → ¬ l0 = 45 → ¬ l0 = 42 → ¬ l0 = 47 → ¬ l0 = 40 → ¬ l0 = 41 → ¬ l0 = 60 → ¬ l0 = 61 → ¬ l0 = 62 → v = 0) → (¬ l0 = 59 → ¬ l0 = 43 → ¬ l0 = 45 → ¬ l0 = 42 → ¬ l0 = 47 → ¬ l0 = 40 → ¬ l0 = 41 → ¬ l0 = 60 → ¬ l0 = 61 → l0 = 62 → v = 1) → Q v g) : w_Tokens_isSignOfLaw l0 g Q := by
  unfold w_Tokens_isSignOfLaw
  refine ⟨⟨by omega, by omega⟩, ?_⟩
  refine ⟨fun c11 => ?_, fun c11 => ?_⟩
  · exact hQ _ (by intros; omega) (by intros; omega) (by intros; omega) (by intros; omega) (by intros; omega) (by intros; omega) (by intros; omega) (by intros; omega) (by intros; omega) (by intros; omega) (by intros; omega)
  · refine ⟨fun c10 => ?_, fun c10 => ?_⟩
    · exact hQ _ (by intros; omega) (by intros; omega) (by intros; omega) (by intros; omega) (by intros; omega) (by intros; omega) (by intros; omega) (by intros; omega) (by intros; omega) (by intros; omega) (by intros; omega)
    · refine ⟨fun c9 => ?_, fun c9 => ?_⟩
      · exact hQ _ (by intros; omega) (by intros; omega) (by intros; omega) (by intros; omega) (by intros; omega) (by intros; omega) (by intros; omega) (by intros; omega) (by intros; omega) (by intros; omega) (by intros; omega)
      · refine ⟨fun c8 => ?_, fun c8 => ?_⟩
        · exact hQ _ (by intros; omega) (by intros; omega) (by intros; omega) (by intros; omega) (by intros; omega) (by intros; omega) (by intros; omega) (by intros; omega) (by intros; omega) (by intros; omega) (by intros; omega)
        · refine ⟨fun c7 => ?_, fun c7 => ?_⟩
          · exact hQ _ (by intros; omega) (by intros; omega) (by intros; omega) (by intros; omega) (by intros; omega) (by intros; omega) (by intros; omega) (by intros; omega) (by intros; omega) (by intros; omega) (by intros; omega)
          · refine ⟨fun c6 => ?_, fun c6 => ?_⟩
            · exact hQ _ (by intros; omega) (by intros; omega) (by intros; omega) (by intros; omega) (by intros; omega) (by intros; omega) (by intros; omega) (by intros; omega) (by intros; omega) (by intros; omega) (by intros; omega)
            · refine ⟨fun c5 => ?_, fun c5 => ?_⟩
              · exact hQ _ (by intros; omega) (by intros; omega) (by intros; omega) (by intros; omega) (by intros; omega) (by intros; omega) (by intros; omega) (by intros; omega) (by intros; omega) (by intros; omega) (by intros; omega)
              · refine ⟨fun c4 => ?_, fun c4 => ?_⟩
                · exact hQ _ (by intros; omega) (by intros; omega) (by intros; omega) (by intros; omega) (by intros; omega) (by intros; omega) (by intros; omega) (by intros; omega) (by intros; omega) (by intros; omega) (by intros; omega)
                · refine ⟨fun c3 => ?_, fun c3 => ?_⟩
                  · exact hQ _ (by intros; omega) (by intros; omega) (by intros; omega) (by intros; omega) (by intros; omega) (by intros; omega) (by intros; omega) (by intros; omega) (by intros; omega) (by intros; omega) (by intros; omega)
                  · refine ⟨fun c2 => ?_, fun c2 => ?_⟩
                    · exact hQ _ (by intros; omega) (by intros; omega) (by intros; omega) (by intros; omega) (by intros; omega) (by intros; omega) (by intros; omega) (by intros; omega) (by intros; omega) (by intros; omega) (by intros; omega)
                    · exact hQ _ (by intros; omega) (by intros; omega) (by intros; omega) (by intros; omega) (by intros; omega) (by intros; omega) (by intros; omega) (by intros; omega) (by intros; omega) (by intros; omega) (by intros; omega)
-- SpoutNews$Tokens.add(III)V
def fr_Tokens_add (a : Nat) (i : Int) : Prop := a = 192 ∨ a = 193 ∨ a = 194 ∨ (a = 191 ∧ i = 3)
set_option maxRecDepth 100000 in
set_option maxHeartbeats 400000 in
theorem k_Tokens_add {l1 : Int} {l2 : Int} {l3 : Int} {g : zi_M} {Q : Int → zi_M → Prop} (I : zk_I g) (p1 : 0 ≤ l1 ∧ l1 ≤ 4) (p3 : 0 ≤ l3 ∧ l3 ≤ 400) (hQ : ∀ g' : zi_M, zk_I g' → zk_fr fr_Tokens_add g g' → Q 0 g') : w_Tokens_add l1 l2 l3 g Q := by
  unfold w_Tokens_add
  have m_1 : 0 ≤ (g 191 3) ∧ (g 191 3) ≤ 401 := I 191 3
  refine ⟨⟨by omega, by omega⟩, ?_⟩
  refine ⟨fun c9 => ?_, fun c9 => ?_⟩
  · exact hQ _ I (zk_f0 _)
  · refine ⟨⟨by omega, by omega⟩, ?_⟩
    intro g3 e_2
    have I_3 : zk_I g3 := by rw [e_2]; exact zk_upd (L := 0) (H := 4) rfl rfl I ⟨by omega, by omega⟩
    have F_4 : zk_fr fr_Tokens_add g g3 := by rw [e_2]; exact zk_fu (zk_f0 _) (by unfold fr_Tokens_add; omega)
    have m_8 : 0 ≤ (g3 191 3) ∧ (g3 191 3) ≤ 401 := I_3 191 3
    have m_9 : g3 191 3 = g 191 3 := by rw [e_2]; exact zi_u_ne (by decide)
    refine ⟨⟨by omega, by omega⟩, ?_⟩
    intro g5 e_5
    have I_6 : zk_I g5 := by rw [e_5]; exact zk_upd (L := (-1)) (H := 9999) rfl rfl I_3 ⟨by omega, by omega⟩
    have F_7 : zk_fr fr_Tokens_add g g5 := by rw [e_5]; exact zk_fu F_4 (by unfold fr_Tokens_add; omega)
    have m_13 : 0 ≤ (g5 191 3) ∧ (g5 191 3) ≤ 401 := I_6 191 3
    have m_14 : g5 191 3 = g3 191 3 := by rw [e_5]; exact zi_u_ne (by decide)
    refine ⟨⟨by omega, by omega⟩, ?_⟩
    intro g7 e_10
    have I_11 : zk_I g7 := by rw [e_10]; exact zk_upd (L := 0) (H := 400) rfl rfl I_6 ⟨by omega, by omega⟩
    have F_12 : zk_fr fr_Tokens_add g g7 := by rw [e_10]; exact zk_fu F_7 (by unfold fr_Tokens_add; omega)
    have m_18 : 0 ≤ (g7 191 3) ∧ (g7 191 3) ≤ 401 := I_11 191 3
    have m_19 : g7 191 3 = g5 191 3 := by rw [e_10]; exact zi_u_ne (by decide)
    intro g8 e_15
    have I_16 : zk_I g8 := by rw [e_15]; exact zk_upd (L := 0) (H := 401) rfl rfl I_11 ⟨by omega, by omega⟩
    have F_17 : zk_fr fr_Tokens_add g g8 := by rw [e_15]; exact zk_fu F_12 (by unfold fr_Tokens_add; omega)
    exact hQ _ I_16 F_17
