-- by program (wip/gen/mkz.py)
-- SpoutNews.quarrel(II)I
def fr_S_quarrel (a : Nat) (i : Int) : Prop := a = 39 ∨ a = 40 ∨ (a = 36 ∧ i = 5)
set_option maxRecDepth 100000 in
set_option maxHeartbeats 400000 in
theorem k_S_quarrel {l1 : Int} {l2 : Int} {g : zi_M} {Q : Int → zi_M → Prop} (I : zk_I g) (p1 : (-2147483648) ≤ l1 ∧ l1 ≤ 2147483647) (p2 : (-2147483648) ≤ l2 ∧ l2 ≤ 2147483647) (hQ : ∀ (v : Int) (g' : zi_M), zk_I g' → zk_fr fr_S_quarrel g g' → ((-1) ≤ v ∧ v ≤ 14) → Q v g') : w_S_quarrel l1 l2 g Q := by
  unfold w_S_quarrel
  refine ⟨⟨by omega, by omega⟩, ?_⟩
  refine ⟨fun c16 => ?_, fun c16 => ?_⟩
  · refine ⟨fun c14 => ?_, fun c14 => ?_⟩
    · exact hQ _ _ I (zk_f0 _) ⟨by omega, by omega⟩
    · refine ⟨fun c13 => ?_, fun c13 => ?_⟩
      · exact hQ _ _ I (zk_f0 _) ⟨by omega, by omega⟩
      · refine ⟨⟨by omega, by omega⟩, ?_⟩
        refine ⟨fun c12 => ?_, fun c12 => ?_⟩
        · exact hQ _ _ I (zk_f0 _) ⟨by omega, by omega⟩
        · refine ⟨fun c11 => ?_, fun c11 => ?_⟩
          · exact hQ _ _ I (zk_f0 _) ⟨by omega, by omega⟩
          · refine ⟨fun c10 => ?_, fun c10 => ?_⟩
            · exact hQ _ _ I (zk_f0 _) ⟨by omega, by omega⟩
            · have m_1 : 0 ≤ (g 36 5) ∧ (g 36 5) ≤ 14 := I 36 5
              refine ⟨⟨by omega, by omega⟩, ?_⟩
              refine ⟨fun c9 => ?_, fun c9 => ?_⟩
              · refine ⟨⟨by omega, by omega⟩, ?_⟩
                intro g5 e_2
                have I_3 : zk_I g5 := by rw [e_2]; exact zk_upd (L := 0) (H := 9) rfl rfl I ⟨by omega, by omega⟩
                have F_4 : zk_fr fr_S_quarrel g g5 := by rw [e_2]; exact zk_fu (zk_f0 _) (by unfold fr_S_quarrel; omega)
                have m_8 : 0 ≤ (g5 36 5) ∧ (g5 36 5) ≤ 14 := I_3 36 5
                have m_9 : g5 36 5 = g 36 5 := by rw [e_2]; exact zi_u_ne (by decide)
                refine ⟨⟨by omega, by omega⟩, ?_⟩
                intro g7 e_5
                have I_6 : zk_I g7 := by rw [e_5]; exact zk_upd (L := 0) (H := 9) rfl rfl I_3 ⟨by omega, by omega⟩
                have F_7 : zk_fr fr_S_quarrel g g7 := by rw [e_5]; exact zk_fu F_4 (by unfold fr_S_quarrel; omega)
                have m_13 : 0 ≤ (g7 36 5) ∧ (g7 36 5) ≤ 14 := I_6 36 5
                have m_14 : g7 36 5 = g5 36 5 := by rw [e_5]; exact zi_u_ne (by decide)
                intro g8 e_10
                have I_11 : zk_I g8 := by rw [e_10]; exact zk_upd (L := 0) (H := 14) rfl rfl I_6 ⟨by omega, by omega⟩
                have F_12 : zk_fr fr_S_quarrel g g8 := by rw [e_10]; exact zk_fu F_7 (by unfold fr_S_quarrel; omega)
                have m_15 : 0 ≤ (g8 36 5) ∧ (g8 36 5) ≤ 14 := I_11 36 5
                have m_16 : g8 36 5 = (g7 36 5) + 1 := by rw [e_10]; exact zi_u_eq
                exact hQ _ _ I_11 F_12 ⟨by omega, by omega⟩
              · exact hQ _ _ I (zk_f0 _) ⟨by omega, by omega⟩
  · intro g15 e_17
    have I_18 : zk_I g15 := by rw [e_17]; exact zk_upd (L := 0) (H := 14) rfl rfl I ⟨by omega, by omega⟩
    have F_19 : zk_fr fr_S_quarrel g g15 := by rw [e_17]; exact zk_fu (zk_f0 _) (by unfold fr_S_quarrel; omega)
    exact hQ _ _ I_18 F_19 ⟨by omega, by omega⟩
-- SpoutNewsModel.quarrel(II)I
def fr_M_quarrel (a : Nat) (i : Int) : Prop := a = 242 ∨ (a = 214 ∧ i = 0) ∨ (a = 214 ∧ i = 50)
set_option maxRecDepth 100000 in
set_option maxHeartbeats 400000 in
theorem k_M_quarrel_l17 {K36 : zi_M → Prop} {Q : Int → zi_M → Prop} {g0 : zi_M} (hK36 : ∀ (g : zi_M), zk_I g → zk_fr fr_M_quarrel g0 g → K36 g) (hQ : ∀ (v : Int) (g' : zi_M), zk_I g' → zk_fr fr_M_quarrel g0 g' → ((-1) ≤ v ∧ v ≤ 14) → Q v g') : ∀ (n : Nat) {l3 : Int} {g : zi_M}, zk_I g → zk_fr fr_M_quarrel g0 g → (0 ≤ l3 ∧ l3 ≤ 10) → 10 - l3 < (n : Int) → w_M_quarrel_l17 K36 Q n l3 g
  | 0, l3, g, I, F, b0, hm => by exfalso; omega
  | n + 1, l3, g, I, F, b0, hm => by
    unfold w_M_quarrel_l17
    refine ⟨⟨by omega, by omega⟩, ?_⟩
    refine ⟨fun c24 => ?_, fun c24 => ?_⟩
    · exact hK36 _ I F
    · refine ⟨⟨by omega, by omega⟩, ?_⟩
      intro g23 e_39
      have I_40 : zk_I g23 := by rw [e_39]; exact zk_upd (L := 0) (H := 1023) rfl rfl I ⟨by omega, by omega⟩
      have F_41 : zk_fr fr_M_quarrel g0 g23 := by rw [e_39]; exact zk_fu F (by unfold fr_M_quarrel; omega)
      exact k_M_quarrel_l17 hK36 hQ n I_40 F_41 ⟨by omega, by omega⟩ (by omega)
set_option maxRecDepth 100000 in
set_option maxHeartbeats 400000 in
theorem k_M_quarrel {l1 : Int} {l2 : Int} {g : zi_M} {Q : Int → zi_M → Prop} (I : zk_I g) (p1 : (-2147483648) ≤ l1 ∧ l1 ≤ 2147483647) (p2 : (-2147483648) ≤ l2 ∧ l2 ≤ 2147483647) (hQ : ∀ (v : Int) (g' : zi_M), zk_I g' → zk_fr fr_M_quarrel g g' → ((-1) ≤ v ∧ v ≤ 14) → Q v g') : w_M_quarrel l1 l2 g Q := by
  unfold w_M_quarrel
  intro g1 e_1
  have I_2 : zk_I g1 := by rw [e_1]; exact zk_upd (L := (-2147483648)) (H := 2147483647) rfl rfl I ⟨by omega, by omega⟩
  have F_3 : zk_fr fr_M_quarrel g g1 := by rw [e_1]; exact zk_fu (zk_f0 _) (by unfold fr_M_quarrel; omega)
  refine ⟨⟨by omega, by omega⟩, ?_⟩
  refine ⟨fun c27 => ?_, fun c27 => ?_⟩
  · refine k_M_isIn I_2 ⟨by omega, by omega⟩ ⟨by omega, by omega⟩ ⟨by omega, by omega⟩ (fun v3 b_4 b_5 b_6 => ?_)
    refine ⟨fun c19 => ?_, fun c19 => ?_⟩
    · exact hQ _ _ I_2 F_3 ⟨by omega, by omega⟩
    · refine k_M_isIn I_2 ⟨by omega, by omega⟩ ⟨by omega, by omega⟩ ⟨by omega, by omega⟩ (fun v6 b_7 b_8 b_9 => ?_)
      refine ⟨fun c18 => ?_, fun c18 => ?_⟩
      · exact hQ _ _ I_2 F_3 ⟨by omega, by omega⟩
      · refine ⟨⟨by omega, by omega⟩, ?_⟩
        refine ⟨fun c17 => ?_, fun c17 => ?_⟩
        · exact hQ _ _ I_2 F_3 ⟨by omega, by omega⟩
        · have m_10 : 0 ≤ (g1 214 50) ∧ (g1 214 50) ≤ 14 := I_2 214 50
          have m_11 : g1 214 50 = g 214 50 := by rw [e_1]; exact zi_u_ni (by decide)
          have m_12 : 0 ≤ (g 214 50) ∧ (g 214 50) ≤ 14 := I 214 50
          refine ⟨⟨by omega, by omega⟩, ?_⟩
          refine ⟨fun c16 => ?_, fun c16 => ?_⟩
          · refine ⟨⟨by omega, by omega⟩, ?_⟩
            have m_16 : 0 ≤ (g1 242 l1) ∧ (g1 242 l1) ≤ 1023 := I_2 242 l1
            have m_17 : g1 242 l1 = g 242 l1 := by rw [e_1]; exact zi_u_ne (by decide)
            have m_18 : 0 ≤ (g 242 l1) ∧ (g 242 l1) ≤ 1023 := I 242 l1
            have m_19 := zi_shl_f l2
            have m_20 := zi_or_f (g1 242 l1) (zi_shl 1 l2)
            intro g12 e_13
            have I_14 : zk_I g12 := by rw [e_13]; exact zk_upd (L := 0) (H := 1023) rfl rfl I_2 ⟨by omega, by omega⟩
            have F_15 : zk_fr fr_M_quarrel g g12 := by rw [e_13]; exact zk_fu F_3 (by unfold fr_M_quarrel; omega)
            refine ⟨⟨by omega, by omega⟩, ?_⟩
            have m_24 : 0 ≤ (g12 242 l2) ∧ (g12 242 l2) ≤ 1023 := I_14 242 l2
            have m_25 := zi_shl_f l1
            have m_26 := zi_or_f (g12 242 l2) (zi_shl 1 l1)
            intro g14 e_21
            have I_22 : zk_I g14 := by rw [e_21]; exact zk_upd (L := 0) (H := 1023) rfl rfl I_14 ⟨by omega, by omega⟩
            have F_23 : zk_fr fr_M_quarrel g g14 := by rw [e_21]; exact zk_fu F_15 (by unfold fr_M_quarrel; omega)
            have m_30 : 0 ≤ (g14 214 50) ∧ (g14 214 50) ≤ 14 := I_22 214 50
            have m_31 : g14 214 50 = g12 214 50 := by rw [e_21]; exact zi_u_ne (by decide)
            have m_32 : 0 ≤ (g12 214 50) ∧ (g12 214 50) ≤ 14 := I_14 214 50
            have m_33 : g12 214 50 = g1 214 50 := by rw [e_13]; exact zi_u_ne (by decide)
            intro g15 e_27
            have I_28 : zk_I g15 := by rw [e_27]; exact zk_upd (L := 0) (H := 14) rfl rfl I_22 ⟨by omega, by omega⟩
            have F_29 : zk_fr fr_M_quarrel g g15 := by rw [e_27]; exact zk_fu F_23 (by unfold fr_M_quarrel; omega)
            have m_34 : 0 ≤ (g15 214 50) ∧ (g15 214 50) ≤ 14 := I_28 214 50
            have m_35 : g15 214 50 = (g14 214 50) + 1 := by rw [e_27]; exact zi_u_eq
            exact hQ _ _ I_28 F_29 ⟨by omega, by omega⟩
          · exact hQ _ _ I_2 F_3 ⟨by omega, by omega⟩
  · intro g20 e_36
    have I_37 : zk_I g20 := by rw [e_36]; exact zk_upd (L := 0) (H := 14) rfl rfl I_2 ⟨by omega, by omega⟩
    have F_38 : zk_fr fr_M_quarrel g g20 := by rw [e_36]; exact zk_fu F_3 (by unfold fr_M_quarrel; omega)
    refine ⟨((10 - 0).toNat + 1), k_M_quarrel_l17 (fun g25 I_42 F_43 => ?_) hQ ((10 - 0).toNat + 1) I_37 F_38 ⟨by omega, by omega⟩ (by omega)⟩
    exact hQ _ _ I_42 F_43 ⟨by omega, by omega⟩
-- SpoutNews$Thought.spread(LSpoutNews$Told;)V
def fr_Thought_spread (a : Nat) (i : Int) : Prop := a = 184
set_option maxRecDepth 100000 in
set_option maxHeartbeats 400000 in
theorem k_Thought_spread_b75 {l3 : Int} {l4 : Int} {l5 : Int} {H : Int → zi_M → Prop} {K119 : zi_M → Prop} {Q : Int → zi_M → Prop} {g : zi_M} {g0 : zi_M} (I : zk_I g) (F : zk_fr fr_Thought_spread g0 g) (p3 : 0 ≤ l3 ∧ l3 ≤ 13) (p4 : 0 ≤ l4 ∧ l4 ≤ 9) (p5 : 0 ≤ l5 ∧ l5 ≤ 9) (M : Int) (hM : 14 - l3 ≤ M) (hH : ∀ (m3 : Int) (g : zi_M), zk_I g → zk_fr fr_Thought_spread g0 g → (0 ≤ m3 ∧ m3 ≤ 14) → 14 - m3 < M → H m3 g) (hK119 : ∀ (g : zi_M), zk_I g → zk_fr fr_Thought_spread g0 g → K119 g) (hQ : ∀ g' : zi_M, zk_I g' → zk_fr fr_Thought_spread g0 g' → Q 0 g') : w_Thought_spread_b75 l3 l4 l5 g H K119 Q := by
  unfold w_Thought_spread_b75
  refine ⟨⟨by omega, by omega⟩, ?_⟩
  have m_4 : (-1) ≤ (g 184 l4) ∧ (g 184 l4) ≤ 28 := I 184 l4
  refine ⟨⟨by omega, by omega⟩, ?_⟩
  refine ⟨fun c13 => ?_, fun c13 => ?_⟩
  · exact hH _ _ I F ⟨by omega, by omega⟩ (by omega)
  · refine ⟨⟨by omega, by omega⟩, ?_⟩
    have m_5 : (-1) ≤ (g 184 l5) ∧ (g 184 l5) ≤ 28 := I 184 l5
    refine ⟨⟨by omega, by omega⟩, ?_⟩
    refine ⟨fun c12 => ?_, fun c12 => ?_⟩
    · exact hH _ _ I F ⟨by omega, by omega⟩ (by omega)
    · have m_9 := zi_xor_f (g 184 l5) 1
      intro g11 e_6
      have I_7 : zk_I g11 := by rw [e_6]; exact zk_upd (L := (-1)) (H := 28) rfl rfl I ⟨by omega, by omega⟩
      have F_8 : zk_fr fr_Thought_spread g0 g11 := by rw [e_6]; exact zk_fu F (by unfold fr_Thought_spread; omega)
      exact hH _ _ I_7 F_8 ⟨by omega, by omega⟩ (by omega)
set_option maxRecDepth 100000 in
set_option maxHeartbeats 400000 in
theorem k_Thought_spread_l10 {K119 : zi_M → Prop} {Q : Int → zi_M → Prop} {g0 : zi_M} (hK119 : ∀ (g : zi_M), zk_I g → zk_fr fr_Thought_spread g0 g → K119 g) (hQ : ∀ g' : zi_M, zk_I g' → zk_fr fr_Thought_spread g0 g' → Q 0 g') : ∀ (n : Nat) {l3 : Int} {g : zi_M}, zk_I g → zk_fr fr_Thought_spread g0 g → (0 ≤ l3 ∧ l3 ≤ 14) → 14 - l3 < (n : Int) → w_Thought_spread_l10 K119 Q n l3 g
  | 0, l3, g, I, F, b0, hm => by exfalso; omega
  | n + 1, l3, g, I, F, b0, hm => by
    unfold w_Thought_spread_l10
    have m_1 : 0 ≤ (g 36 5) ∧ (g 36 5) ≤ 14 := I 36 5
    refine ⟨⟨by omega, by omega⟩, ⟨by omega, by omega⟩, ?_⟩
    refine ⟨fun c19 => ?_, fun c19 => ?_⟩
    · exact hK119 _ I F
    · refine ⟨⟨by omega, by omega⟩, ?_⟩
      have m_2 : 0 ≤ (g 39 l3) ∧ (g 39 l3) ≤ 9 := I 39 l3
      refine ⟨⟨by omega, by omega⟩, ?_⟩
      have m_3 : (-1) ≤ (g 184 (g 39 l3)) ∧ (g 184 (g 39 l3)) ≤ 28 := I 184 (g 39 l3)
      refine ⟨⟨by omega, by omega⟩, ?_⟩
      refine ⟨fun c18 => ?_, fun c18 => ?_⟩
      · have m_10 : 0 ≤ (g 40 l3) ∧ (g 40 l3) ≤ 9 := I 40 l3
        exact k_Thought_spread_b75 I F ⟨by omega, by omega⟩ ⟨by omega, by omega⟩ ⟨by omega, by omega⟩ (n : Int) (by omega) (fun _ _ I F b0 hm => k_Thought_spread_l10 hK119 hQ n I F b0 hm) hK119 hQ
      · have m_11 : 0 ≤ (g 40 l3) ∧ (g 40 l3) ≤ 9 := I 40 l3
        refine ⟨⟨by omega, by omega⟩, ?_⟩
        have m_12 : (-1) ≤ (g 184 (g 40 l3)) ∧ (g 184 (g 40 l3)) ≤ 28 := I 184 (g 40 l3)
        refine ⟨⟨by omega, by omega⟩, ?_⟩
        refine ⟨fun c17 => ?_, fun c17 => ?_⟩
        · exact k_Thought_spread_b75 I F ⟨by omega, by omega⟩ ⟨by omega, by omega⟩ ⟨by omega, by omega⟩ (n : Int) (by omega) (fun _ _ I F b0 hm => k_Thought_spread_l10 hK119 hQ n I F b0 hm) hK119 hQ
        · have m_16 := zi_xor_f (g 184 (g 39 l3)) 1
          intro g16 e_13
          have I_14 : zk_I g16 := by rw [e_13]; exact zk_upd (L := (-1)) (H := 28) rfl rfl I ⟨by omega, by omega⟩
          have F_15 : zk_fr fr_Thought_spread g0 g16 := by rw [e_13]; exact zk_fu F (by unfold fr_Thought_spread; omega)
          exact k_Thought_spread_l10 hK119 hQ n I_14 F_15 ⟨by omega, by omega⟩ (by omega)
set_option maxRecDepth 100000 in
set_option maxHeartbeats 400000 in
theorem k_Thought_spread_l2 {K125 : zi_M → Prop} {Q : Int → zi_M → Prop} {g0 : zi_M} (hK125 : ∀ (g : zi_M), zk_I g → zk_fr fr_Thought_spread g0 g → K125 g) (hQ : ∀ g' : zi_M, zk_I g' → zk_fr fr_Thought_spread g0 g' → Q 0 g') : ∀ (n : Nat) {l2 : Int} {g : zi_M}, zk_I g → zk_fr fr_Thought_spread g0 g → (0 ≤ l2 ∧ l2 ≤ 10) → 10 - l2 < (n : Int) → w_Thought_spread_l2 K125 Q n l2 g
  | 0, l2, g, I, F, b0, hm => by exfalso; omega
  | n + 1, l2, g, I, F, b0, hm => by
    unfold w_Thought_spread_l2
    refine ⟨⟨by omega, by omega⟩, ?_⟩
    refine ⟨fun c22 => ?_, fun c22 => ?_⟩
    · exact hK125 _ I F
    · refine ⟨((14 - 0).toNat + 1), k_Thought_spread_l10 (fun g20 I_17 F_18 => ?_) hQ ((14 - 0).toNat + 1) I F ⟨by omega, by omega⟩ (by omega)⟩
      exact k_Thought_spread_l2 hK125 hQ n I_17 F_18 ⟨by omega, by omega⟩ (by omega)
set_option maxRecDepth 100000 in
set_option maxHeartbeats 400000 in
theorem k_Thought_spread {g : zi_M} {Q : Int → zi_M → Prop} (I : zk_I g) (hQ : ∀ g' : zi_M, zk_I g' → zk_fr fr_Thought_spread g g' → Q 0 g') : w_Thought_spread g Q := by
  unfold w_Thought_spread
  refine ⟨((10 - 0).toNat + 1), k_Thought_spread_l2 (fun g23 I_19 F_20 => ?_) hQ ((10 - 0).toNat + 1) I (zk_f0 _) ⟨by omega, by omega⟩ (by omega)⟩
  exact hQ _ I_19 F_20
-- SpoutNews$Thought.countColour(I)I
set_option maxRecDepth 100000 in
set_option maxHeartbeats 400000 in
theorem k_Thought_countColour_l4 {g : zi_M} (I : zk_I g) {l1 : Int} {K29 : Int → zi_M → Prop} {Q : Int → zi_M → Prop} (q1 : 0 ≤ l1 ∧ l1 ≤ 29) (hK29 : ∀ (k2 : Int), (0 ≤ k2) → K29 k2 g) (hQ : ∀ v : Int, (0 ≤ v) → Q v g) : ∀ (n : Nat) {l2 : Int} {l3 : Int}, (0 ≤ l2) → (0 ≤ l3 ∧ l3 ≤ 10) → 10 - l3 < (n : Int) → w_Thought_countColour_l4 l1 K29 Q n l2 l3 g
  | 0, l2, l3, b0, b1, hm => by exfalso; omega
  | n + 1, l2, l3, b0, b1, hm => by
    unfold w_Thought_countColour_l4
    refine ⟨⟨by omega, by omega⟩, ?_⟩
    refine ⟨fun c6 => ?_, fun c6 => ?_⟩
    · exact hK29 _ (by omega)
    · refine ⟨⟨by omega, by omega⟩, ?_⟩
      have m_1 : (-1) ≤ (g 184 l3) ∧ (g 184 l3) ≤ 28 := I 184 l3
      refine ⟨⟨by omega, by omega⟩, ⟨by omega, by omega⟩, ?_⟩
      refine ⟨fun c5 => ?_, fun c5 => ?_⟩
      · exact k_Thought_countColour_l4 I q1 hK29 hQ n (by omega) ⟨by omega, by omega⟩ (by omega)
      · exact k_Thought_countColour_l4 I q1 hK29 hQ n (by omega) ⟨by omega, by omega⟩ (by omega)
set_option maxRecDepth 100000 in
set_option maxHeartbeats 400000 in
theorem k_Thought_countColour {l1 : Int} {g : zi_M} {Q : Int → zi_M → Prop} (I : zk_I g) (p1 : 0 ≤ l1 ∧ l1 ≤ 29) (hQ : ∀ v : Int, (0 ≤ v) → Q v g) : w_Thought_countColour l1 g Q := by
  unfold w_Thought_countColour
  refine ⟨((10 - 0).toNat + 1), k_Thought_countColour_l4 (l1 := l1) I ⟨by omega, by omega⟩ (fun k7 b_2 => ?_) hQ ((10 - 0).toNat + 1) (by omega) ⟨by omega, by omega⟩ (by omega)⟩
  exact hQ _ (by omega)
-- SpoutNews$Thought.partGroups(LSpoutNews$Told;)V
def fr_Thought_partGroups (a : Nat) (i : Int) : Prop := a = 184 ∨ (a = 180 ∧ i = 5) ∨ (a = 180 ∧ i = 6)
set_option maxRecDepth 100000 in
set_option maxHeartbeats 400000 in
theorem k_Thought_partGroups_l20 {K112 : zi_M → Prop} {Q : Int → zi_M → Prop} {g0 : zi_M} (hK112 : ∀ (g : zi_M), zk_I g → zk_fr fr_Thought_partGroups g0 g → K112 g) (hQ : ∀ g' : zi_M, zk_I g' → zk_fr fr_Thought_partGroups g0 g' → Q 0 g') : ∀ (n : Nat) {l2 : Int} {g : zi_M}, zk_I g → zk_fr fr_Thought_partGroups g0 g → (0 ≤ l2 ∧ l2 ≤ 14) → 14 - l2 < (n : Int) → w_Thought_partGroups_l20 K112 Q n l2 g
  | 0, l2, g, I, F, b0, hm => by exfalso; omega
  | n + 1, l2, g, I, F, b0, hm => by
    unfold w_Thought_partGroups_l20
    have m_10 : 0 ≤ (g 36 5) ∧ (g 36 5) ≤ 14 := I 36 5
    refine ⟨⟨by omega, by omega⟩, ⟨by omega, by omega⟩, ?_⟩
    refine ⟨fun c24 => ?_, fun c24 => ?_⟩
    · exact hK112 _ I F
    · refine ⟨⟨by omega, by omega⟩, ?_⟩
      have m_11 : 0 ≤ (g 39 l2) ∧ (g 39 l2) ≤ 9 := I 39 l2
      refine ⟨⟨by omega, by omega⟩, ?_⟩
      have m_12 : (-1) ≤ (g 184 (g 39 l2)) ∧ (g 184 (g 39 l2)) ≤ 28 := I 184 (g 39 l2)
      refine ⟨⟨by omega, by omega⟩, ?_⟩
      refine ⟨fun c23 => ?_, fun c23 => ?_⟩
      · exact k_Thought_partGroups_l20 hK112 hQ n I F ⟨by omega, by omega⟩ (by omega)
      · have m_16 : 0 ≤ (g 180 5) ∧ (g 180 5) ≤ 14 := I 180 5
        intro g9 e_13
        have I_14 : zk_I g9 := by rw [e_13]; exact zk_upd (L := (-1)) (H := 28) rfl rfl I ⟨by omega, by omega⟩
        have F_15 : zk_fr fr_Thought_partGroups g0 g9 := by rw [e_13]; exact zk_fu F (by unfold fr_Thought_partGroups; omega)
        refine k_Thought_spread I_14 (fun g11 I_17 F_18 => ?_)
        have F_19 : zk_fr fr_Thought_partGroups g0 g11 := zk_ft F_15 F_18 (by intro a i h; unfold fr_Thought_spread at h; unfold fr_Thought_partGroups; omega)
        have m_20 : 0 ≤ (g11 180 5) ∧ (g11 180 5) ≤ 14 := I_17 180 5
        have m_21 : g11 180 5 = g9 180 5 := F_18 _ _ (by unfold fr_Thought_spread; omega)
        have m_22 : 0 ≤ (g9 180 5) ∧ (g9 180 5) ≤ 14 := I_14 180 5
        have m_23 : g9 180 5 = g 180 5 := by rw [e_13]; exact zi_u_ne (by decide)
        refine k_Thought_countColour I_17 ⟨by omega, by omega⟩ (fun v13 b_24 => ?_)
        refine k_Thought_countColour I_17 ⟨by omega, by omega⟩ (fun v16 b_25 => ?_)
        refine ⟨⟨by omega, by omega⟩, ⟨by omega, by omega⟩, ?_⟩
        have m_29 : (-1) ≤ (g11 180 6) ∧ (g11 180 6) ≤ 140 := I_17 180 6
        have m_30 : g11 180 6 = g9 180 6 := F_18 _ _ (by unfold fr_Thought_spread; omega)
        have m_31 : (-1) ≤ (g9 180 6) ∧ (g9 180 6) ≤ 140 := I_14 180 6
        have m_32 : g9 180 6 = g 180 6 := by rw [e_13]; exact zi_u_ne (by decide)
        have m_33 : (-1) ≤ (g 180 6) ∧ (g 180 6) ≤ 140 := I 180 6
        intro g21 e_26
        have I_27 : zk_I g21 := by rw [e_26]; exact zk_upd (L := (-1)) (H := 140) rfl rfl I_17 ⟨by omega, by omega⟩
        have F_28 : zk_fr fr_Thought_partGroups g0 g21 := by rw [e_26]; exact zk_fu F_19 (by unfold fr_Thought_partGroups; omega)
        have m_37 : 0 ≤ (g21 180 5) ∧ (g21 180 5) ≤ 14 := I_27 180 5
        have m_38 : g21 180 5 = g11 180 5 := by rw [e_26]; exact zi_u_ni (by decide)
        intro g22 e_34
        have I_35 : zk_I g22 := by rw [e_34]; exact zk_upd (L := 0) (H := 14) rfl rfl I_27 ⟨by omega, by omega⟩
        have F_36 : zk_fr fr_Thought_partGroups g0 g22 := by rw [e_34]; exact zk_fu F_28 (by unfold fr_Thought_partGroups; omega)
        exact k_Thought_partGroups_l20 hK112 hQ n I_35 F_36 ⟨by omega, by omega⟩ (by omega)
set_option maxRecDepth 100000 in
set_option maxHeartbeats 400000 in
theorem k_Thought_partGroups_l114 {K158 : zi_M → Prop} {Q : Int → zi_M → Prop} {g0 : zi_M} (hK158 : ∀ (g : zi_M), zk_I g → zk_fr fr_Thought_partGroups g0 g → K158 g) (hQ : ∀ g' : zi_M, zk_I g' → zk_fr fr_Thought_partGroups g0 g' → Q 0 g') : ∀ (n : Nat) {l2 : Int} {g : zi_M}, zk_I g → zk_fr fr_Thought_partGroups g0 g → (0 ≤ l2 ∧ l2 ≤ 14) → 14 - l2 < (n : Int) → w_Thought_partGroups_l114 K158 Q n l2 g
  | 0, l2, g, I, F, b0, hm => by exfalso; omega
  | n + 1, l2, g, I, F, b0, hm => by
    unfold w_Thought_partGroups_l114
    have m_41 : 0 ≤ (g 36 5) ∧ (g 36 5) ≤ 14 := I 36 5
    refine ⟨⟨by omega, by omega⟩, ⟨by omega, by omega⟩, ?_⟩
    refine ⟨fun c35 => ?_, fun c35 => ?_⟩
    · exact hK158 _ I F
    · refine ⟨⟨by omega, by omega⟩, ?_⟩
      have m_42 : 0 ≤ (g 39 l2) ∧ (g 39 l2) ≤ 9 := I 39 l2
      refine ⟨⟨by omega, by omega⟩, ?_⟩
      have m_43 : 0 ≤ (g 40 l2) ∧ (g 40 l2) ≤ 9 := I 40 l2
      refine ⟨⟨by omega, by omega⟩, ?_⟩
      have m_44 : (-1) ≤ (g 184 (g 39 l2)) ∧ (g 184 (g 39 l2)) ≤ 28 := I 184 (g 39 l2)
      have m_45 : (-1) ≤ (g 184 (g 40 l2)) ∧ (g 184 (g 40 l2)) ≤ 28 := I 184 (g 40 l2)
      refine ⟨⟨by omega, by omega⟩, ⟨by omega, by omega⟩, ?_⟩
      refine ⟨fun c34 => ?_, fun c34 => ?_⟩
      · exact k_Thought_partGroups_l114 hK158 hQ n I F ⟨by omega, by omega⟩ (by omega)
      · intro g33 e_46
        have I_47 : zk_I g33 := by rw [e_46]; exact zk_upd (L := (-1)) (H := 140) rfl rfl I ⟨by omega, by omega⟩
        have F_48 : zk_fr fr_Thought_partGroups g0 g33 := by rw [e_46]; exact zk_fu F (by unfold fr_Thought_partGroups; omega)
        exact k_Thought_partGroups_l114 hK158 hQ n I_47 F_48 ⟨by omega, by omega⟩ (by omega)
set_option maxRecDepth 100000 in
set_option maxHeartbeats 400000 in
theorem k_Thought_partGroups {g : zi_M} {Q : Int → zi_M → Prop} (I : zk_I g) (hQ : ∀ g' : zi_M, zk_I g' → zk_fr fr_Thought_partGroups g g' → Q 0 g') : w_Thought_partGroups g Q := by
  unfold w_Thought_partGroups
  intro g1 e_1
  have I_2 : zk_I g1 := by rw [e_1]; exact zk_fill (L := (-1)) (H := 28) (fun _ => rfl) (fun _ => rfl) I ⟨by omega, by omega⟩
  have F_3 : zk_fr fr_Thought_partGroups g g1 := by rw [e_1]; exact zk_ff (zk_f0 _) (fun i => by unfold fr_Thought_partGroups; omega)
  intro g2 e_4
  have I_5 : zk_I g2 := by rw [e_4]; exact zk_upd (L := 0) (H := 14) rfl rfl I_2 ⟨by omega, by omega⟩
  have F_6 : zk_fr fr_Thought_partGroups g g2 := by rw [e_4]; exact zk_fu F_3 (by unfold fr_Thought_partGroups; omega)
  intro g3 e_7
  have I_8 : zk_I g3 := by rw [e_7]; exact zk_upd (L := (-1)) (H := 140) rfl rfl I_5 ⟨by omega, by omega⟩
  have F_9 : zk_fr fr_Thought_partGroups g g3 := by rw [e_7]; exact zk_fu F_6 (by unfold fr_Thought_partGroups; omega)
  refine ⟨((14 - 0).toNat + 1), k_Thought_partGroups_l20 (fun g25 I_39 F_40 => ?_) hQ ((14 - 0).toNat + 1) I_8 F_9 ⟨by omega, by omega⟩ (by omega)⟩
  refine ⟨((14 - 0).toNat + 1), k_Thought_partGroups_l114 (fun g36 I_49 F_50 => ?_) hQ ((14 - 0).toNat + 1) I_39 F_40 ⟨by omega, by omega⟩ (by omega)⟩
  exact hQ _ I_49 F_50
-- SpoutNews.parts(I)I
def fr_S_parts (a : Nat) (i : Int) : Prop := a = 184 ∨ (a = 180 ∧ i = 5) ∨ (a = 180 ∧ i = 6)
set_option maxRecDepth 100000 in
set_option maxHeartbeats 400000 in
theorem k_S_parts_b11 {l1 : Int} {Q : Int → zi_M → Prop} {g : zi_M} {g0 : zi_M} (I : zk_I g) (F : zk_fr fr_S_parts g0 g) (p1 : 0 ≤ l1 ∧ l1 ≤ 1) (hQ : ∀ (v : Int) (g' : zi_M), zk_I g' → zk_fr fr_S_parts g0 g' → ((-1) ≤ v ∧ v ≤ 140) → Q v g') : w_S_parts_b11 l1 g Q := by
  unfold w_S_parts_b11
  refine k_Thought_partGroups I (fun g3 I_1 F_2 => ?_)
  have F_3 : zk_fr fr_S_parts g0 g3 := zk_ft F F_2 (by intro a i h; unfold fr_Thought_partGroups at h; unfold fr_S_parts; omega)
  refine ⟨⟨by omega, by omega⟩, ?_⟩
  refine ⟨fun c6 => ?_, fun c6 => ?_⟩
  · have m_4 : 0 ≤ (g3 180 5) ∧ (g3 180 5) ≤ 14 := I_1 180 5
    exact hQ _ _ I_1 F_3 ⟨by omega, by omega⟩
  · have m_5 : (-1) ≤ (g3 180 6) ∧ (g3 180 6) ≤ 140 := I_1 180 6
    exact hQ _ _ I_1 F_3 ⟨by omega, by omega⟩
set_option maxRecDepth 100000 in
set_option maxHeartbeats 400000 in
theorem k_S_parts {l1 : Int} {g : zi_M} {Q : Int → zi_M → Prop} (I : zk_I g) (p1 : (-2147483648) ≤ l1 ∧ l1 ≤ 2147483647) (hQ : ∀ (v : Int) (g' : zi_M), zk_I g' → zk_fr fr_S_parts g g' → ((-1) ≤ v ∧ v ≤ 140) → Q v g') : w_S_parts l1 g Q := by
  unfold w_S_parts
  refine ⟨⟨by omega, by omega⟩, ?_⟩
  refine ⟨fun c8 => ?_, fun c8 => ?_⟩
  · exact k_S_parts_b11 I (zk_f0 _) ⟨by omega, by omega⟩ hQ
  · refine ⟨fun c7 => ?_, fun c7 => ?_⟩
    · exact k_S_parts_b11 I (zk_f0 _) ⟨by omega, by omega⟩ hQ
    · exact hQ _ _ I (zk_f0 _) ⟨by omega, by omega⟩
-- SpoutNewsModel.besideAll(I)I
set_option maxRecDepth 100000 in
set_option maxHeartbeats 400000 in
theorem k_M_besideAll_l4 {g : zi_M} (I : zk_I g) {l1 : Int} {K34 : Int → zi_M → Prop} {Q : Int → zi_M → Prop} (q1 : 0 ≤ l1 ∧ l1 ≤ 1023) (hK34 : ∀ (k2 : Int), (0 ≤ k2 ∧ k2 ≤ 1023) → K34 k2 g) (hQ : ∀ v : Int, (0 ≤ v ∧ v ≤ 1023) → Q v g) : ∀ (n : Nat) {l2 : Int} {l3 : Int}, (0 ≤ l2 ∧ l2 ≤ 1023) → (0 ≤ l3 ∧ l3 ≤ 10) → 10 - l3 < (n : Int) → w_M_besideAll_l4 l1 K34 Q n l2 l3 g
  | 0, l2, l3, b0, b1, hm => by exfalso; omega
  | n + 1, l2, l3, b0, b1, hm => by
    unfold w_M_besideAll_l4
    refine ⟨⟨by omega, by omega⟩, ?_⟩
    refine ⟨fun c7 => ?_, fun c7 => ?_⟩
    · exact hK34 _ ⟨by omega, by omega⟩
    · have m_3 := zi_shr_f (l1) (l3)
      have m_4 := zi_and_f (zi_shr l1 l3) 1
      refine k_M_has I ⟨by omega, by omega⟩ ⟨by omega, by omega⟩ (fun v2 b_1 b_2 => ?_)
      refine ⟨fun c6 => ?_, fun c6 => ?_⟩
      · exact k_M_besideAll_l4 I q1 hK34 hQ n ⟨by omega, by omega⟩ ⟨by omega, by omega⟩ (by omega)
      · refine ⟨⟨by omega, by omega⟩, ?_⟩
        have m_5 : 0 ≤ (g 242 l3) ∧ (g 242 l3) ≤ 1023 := I 242 l3
        have m_6 := zi_or_f l2 (g 242 l3)
        exact k_M_besideAll_l4 I q1 hK34 hQ n ⟨by omega, by omega⟩ ⟨by omega, by omega⟩ (by omega)
set_option maxRecDepth 100000 in
set_option maxHeartbeats 400000 in
theorem k_M_besideAll {l1 : Int} {g : zi_M} {Q : Int → zi_M → Prop} (I : zk_I g) (p1 : 0 ≤ l1 ∧ l1 ≤ 1023) (hQ : ∀ v : Int, (0 ≤ v ∧ v ≤ 1023) → Q v g) : w_M_besideAll l1 g Q := by
  unfold w_M_besideAll
  refine ⟨((10 - 0).toNat + 1), k_M_besideAll_l4 (l1 := l1) I ⟨by omega, by omega⟩ (fun k8 b_7 => ?_) hQ ((10 - 0).toNat + 1) ⟨by omega, by omega⟩ ⟨by omega, by omega⟩ (by omega)⟩
  exact hQ _ ⟨by omega, by omega⟩
-- SpoutNewsModel.sideFrom(IZ)I
set_option maxRecDepth 100000 in
set_option maxHeartbeats 400000 in
theorem k_M_sideFrom_l10 {g : zi_M} (I : zk_I g) {K42 : Int → Int → zi_M → Prop} {Q : Int → zi_M → Prop} (hK42 : ∀ (k3 : Int) (k4 : Int), (0 ≤ k3 ∧ k3 ≤ 1023) → (0 ≤ k4 ∧ k4 ≤ 1023) → K42 k3 k4 g) (hQ : ∀ v : Int, (0 ≤ v ∧ v ≤ 1023) → Q v g) : ∀ (n : Nat) {l3 : Int} {l4 : Int} {l5 : Int}, (0 ≤ l3 ∧ l3 ≤ 1023) → (0 ≤ l4 ∧ l4 ≤ 1023) → (0 ≤ l5 ∧ l5 ≤ 10) → 10 - l5 < (n : Int) → w_M_sideFrom_l10 K42 Q n l3 l4 l5 g
  | 0, l3, l4, l5, b0, b1, b2, hm => by exfalso; omega
  | n + 1, l3, l4, l5, b0, b1, b2, hm => by
    unfold w_M_sideFrom_l10
    refine ⟨⟨by omega, by omega⟩, ?_⟩
    refine ⟨fun c8 => ?_, fun c8 => ?_⟩
    · exact hK42 _ _ ⟨by omega, by omega⟩ ⟨by omega, by omega⟩
    · refine k_M_besideAll I ⟨by omega, by omega⟩ (fun v2 b_1 => ?_)
      have m_2 := zi_or_f l4 v2
      refine k_M_besideAll I ⟨by omega, by omega⟩ (fun v5 b_3 => ?_)
      have m_4 := zi_or_f l3 v5
      exact k_M_sideFrom_l10 I hK42 hQ n ⟨by omega, by omega⟩ ⟨by omega, by omega⟩ ⟨by omega, by omega⟩ (by omega)
set_option maxRecDepth 100000 in
set_option maxHeartbeats 400000 in
theorem k_M_sideFrom {l1 : Int} {l2 : Int} {g : zi_M} {Q : Int → zi_M → Prop} (I : zk_I g) (p1 : 0 ≤ l1 ∧ l1 ≤ 9) (p2 : 0 ≤ l2 ∧ l2 ≤ 1) (hQ : ∀ v : Int, (0 ≤ v ∧ v ≤ 1023) → Q v g) : w_M_sideFrom l1 l2 g Q := by
  unfold w_M_sideFrom
  have m_7 := zi_shl_f l1
  refine ⟨((10 - 0).toNat + 1), k_M_sideFrom_l10 I (fun k9 k10 b_5 b_6 => ?_) hQ ((10 - 0).toNat + 1) ⟨by omega, by omega⟩ ⟨by omega, by omega⟩ ⟨by omega, by omega⟩ (by omega)⟩
  refine ⟨⟨by omega, by omega⟩, ?_⟩
  refine ⟨fun c13 => ?_, fun c13 => ?_⟩
  · exact hQ _ ⟨by omega, by omega⟩
  · exact hQ _ ⟨by omega, by omega⟩
-- SpoutNewsModel.parts(I)I
def fr_M_parts (a : Nat) (i : Int) : Prop := (a = 214 ∧ i = 0)
set_option maxRecDepth 100000 in
set_option maxHeartbeats 400000 in
theorem k_M_parts_b101 {l1 : Int} {l2 : Int} {l3 : Int} {l4 : Int} {l5 : Int} {l6 : Int} {l7 : Int} {H : Int → Int → Int → Int → zi_M → Prop} {K99 : zi_M → Prop} {K128 : Int → Int → zi_M → Prop} {Q : Int → zi_M → Prop} {g : zi_M} {g0 : zi_M} (I : zk_I g) (F : zk_fr fr_M_parts g0 g) (p1 : (-2147483648) ≤ l1 ∧ l1 ≤ 2147483647) (p2 : 0 ≤ l2 ∧ l2 ≤ 1023) (p3 : 1 ≤ l3) (p5 : 0 ≤ l5 ∧ l5 ≤ 9) (p6 : 0 ≤ l6 ∧ l6 ≤ 1023) (p7 : 0 ≤ l7 ∧ l7 ≤ 1023) (M : Int) (hM : 10 - l5 ≤ M) (hH : ∀ (m2 : Int) (m3 : Int) (m4 : Int) (m5 : Int) (g : zi_M), zk_I g → zk_fr fr_M_parts g0 g → (0 ≤ m2 ∧ m2 ≤ 1023) → (0 ≤ m3) → (0 ≤ m5 ∧ m5 ≤ 10) → 10 - m5 < M → H m2 m3 m4 m5 g) (hK99 : ∀ (g : zi_M), zk_I g → zk_fr fr_M_parts g0 g → K99 g) (hK128 : ∀ (k3 : Int) (k4 : Int) (g : zi_M), zk_I g → zk_fr fr_M_parts g0 g → (0 ≤ k3) → K128 k3 k4 g) (hQ : ∀ (v : Int) (g' : zi_M), zk_I g' → zk_fr fr_M_parts g0 g' → Q v g') : w_M_parts_b101 l1 l2 l3 l4 l5 l6 l7 g H K99 K128 Q := by
  unfold w_M_parts_b101
  refine k_M_onesOf I ⟨by omega, by omega⟩ (fun v17 b_15 => ?_)
  refine k_M_onesOf I ⟨by omega, by omega⟩ (fun v20 b_16 => ?_)
  refine k_M_greater I ⟨by omega, by omega⟩ ⟨by omega, by omega⟩ (fun v23 b_17 b_18 => ?_)
  exact hH _ _ _ _ _ I F ⟨by omega, by omega⟩ (by omega) ⟨by omega, by omega⟩ (by omega)
set_option maxRecDepth 100000 in
set_option maxHeartbeats 400000 in
theorem k_M_parts_l27 {l1 : Int} {K99 : zi_M → Prop} {K128 : Int → Int → zi_M → Prop} {Q : Int → zi_M → Prop} {g0 : zi_M} (q1 : (-2147483648) ≤ l1 ∧ l1 ≤ 2147483647) (hK99 : ∀ (g : zi_M), zk_I g → zk_fr fr_M_parts g0 g → K99 g) (hK128 : ∀ (k3 : Int) (k4 : Int) (g : zi_M), zk_I g → zk_fr fr_M_parts g0 g → (0 ≤ k3) → K128 k3 k4 g) (hQ : ∀ (v : Int) (g' : zi_M), zk_I g' → zk_fr fr_M_parts g0 g' → Q v g') : ∀ (n : Nat) {l2 : Int} {l3 : Int} {l4 : Int} {l5 : Int} {g : zi_M}, zk_I g → zk_fr fr_M_parts g0 g → (0 ≤ l2 ∧ l2 ≤ 1023) → (0 ≤ l3) → (0 ≤ l5 ∧ l5 ≤ 10) → 10 - l5 < (n : Int) → w_M_parts_l27 l1 K99 K128 Q n l2 l3 l4 l5 g
  | 0, l2, l3, l4, l5, g, I, F, b0, b1, b2, hm => by exfalso; omega
  | n + 1, l2, l3, l4, l5, g, I, F, b0, b1, b2, hm => by
    unfold w_M_parts_l27
    refine ⟨⟨by omega, by omega⟩, ?_⟩
    refine ⟨fun c31 => ?_, fun c31 => ?_⟩
    · exact hK128 _ _ _ I F (by omega)
    · refine ⟨⟨by omega, by omega⟩, ?_⟩
      have m_7 : 0 ≤ (g 242 l5) ∧ (g 242 l5) ≤ 1023 := I 242 l5
      refine ⟨⟨by omega, by omega⟩, ?_⟩
      refine ⟨fun c30 => ?_, fun c30 => ?_⟩
      · exact k_M_parts_l27 q1 hK99 hK128 hQ n I F ⟨by omega, by omega⟩ (by omega) ⟨by omega, by omega⟩ (by omega)
      · have m_10 := zi_shr_f (l2) (l5)
        have m_11 := zi_and_f (zi_shr l2 l5) 1
        refine k_M_has I ⟨by omega, by omega⟩ ⟨by omega, by omega⟩ (fun v8 b_8 b_9 => ?_)
        refine ⟨fun c29 => ?_, fun c29 => ?_⟩
        · refine k_M_sideFrom I ⟨by omega, by omega⟩ ⟨by omega, by omega⟩ (fun v11 b_12 => ?_)
          refine k_M_sideFrom I ⟨by omega, by omega⟩ ⟨by omega, by omega⟩ (fun v14 b_13 => ?_)
          have m_14 := zi_and_f v11 v14
          refine ⟨fun c28 => ?_, fun c28 => ?_⟩
          · have m_19 := zi_or_f l2 v11
            have m_20 := zi_or_f (zi_or l2 v11) v14
            exact k_M_parts_b101 I F ⟨by omega, by omega⟩ ⟨by omega, by omega⟩ (by omega) ⟨by omega, by omega⟩ ⟨by omega, by omega⟩ ⟨by omega, by omega⟩ (n : Int) (by omega) (fun _ _ _ _ _ I F b0 b1 b2 hm => k_M_parts_l27 q1 hK99 hK128 hQ n I F b0 b1 b2 hm) hK99 hK128 hQ
          · refine ⟨⟨by omega, by omega⟩, ?_⟩
            refine ⟨fun c27 => ?_, fun c27 => ?_⟩
            · have m_21 := zi_or_f l2 v11
              have m_22 := zi_or_f (zi_or l2 v11) v14
              exact k_M_parts_b101 I F ⟨by omega, by omega⟩ ⟨by omega, by omega⟩ (by omega) ⟨by omega, by omega⟩ ⟨by omega, by omega⟩ ⟨by omega, by omega⟩ (n : Int) (by omega) (fun _ _ _ _ _ I F b0 b1 b2 hm => k_M_parts_l27 q1 hK99 hK128 hQ n I F b0 b1 b2 hm) hK99 hK128 hQ
            · exact hK99 _ I F
        · exact k_M_parts_l27 q1 hK99 hK128 hQ n I F ⟨by omega, by omega⟩ (by omega) ⟨by omega, by omega⟩ (by omega)
set_option maxRecDepth 100000 in
set_option maxHeartbeats 400000 in
theorem k_M_parts {l1 : Int} {g : zi_M} {Q : Int → zi_M → Prop} (I : zk_I g) (p1 : (-2147483648) ≤ l1 ∧ l1 ≤ 2147483647) (hQ : ∀ (v : Int) (g' : zi_M), zk_I g' → zk_fr fr_M_parts g g' → Q v g') : w_M_parts l1 g Q := by
  unfold w_M_parts
  intro g1 e_1
  have I_2 : zk_I g1 := by rw [e_1]; exact zk_upd (L := (-2147483648)) (H := 2147483647) rfl rfl I ⟨by omega, by omega⟩
  have F_3 : zk_fr fr_M_parts g g1 := by rw [e_1]; exact zk_fu (zk_f0 _) (by unfold fr_M_parts; omega)
  refine k_M_isIn I_2 ⟨by omega, by omega⟩ ⟨by omega, by omega⟩ ⟨by omega, by omega⟩ (fun v2 b_4 b_5 b_6 => ?_)
  refine ⟨fun c39 => ?_, fun c39 => ?_⟩
  · refine ⟨((10 - 0).toNat + 1), k_M_parts_l27 (l1 := l1) ⟨by omega, by omega⟩ (fun g32 I_23 F_24 => ?_) (fun k33 k34 g35 I_25 F_26 b_27 => ?_) hQ ((10 - 0).toNat + 1) I_2 F_3 ⟨by omega, by omega⟩ (by omega) ⟨by omega, by omega⟩ (by omega)⟩
    · exact hQ _ _ I_23 F_24
    · refine ⟨⟨by omega, by omega⟩, ?_⟩
      refine ⟨fun c37 => ?_, fun c37 => ?_⟩
      · exact hQ _ _ I_25 F_26
      · exact hQ _ _ I_25 F_26
  · exact hQ _ _ I_2 F_3
