-- by program (wip/gen/mkz.py)
-- SpoutNews$Thought.spread(LSpoutNews$Told;)V
set_option maxRecDepth 100000 in
set_option maxHeartbeats 4000000 in
theorem k_Thought_spread_b75 {l3 : Int} {l4 : Int} {l5 : Int} {H : Int → zi_M → Prop} {K119 : zi_M → Prop} {Q : Int → zi_M → Prop} {g : zi_M} {g0 : zi_M} (I : zk_I g) (F : zk_fr fr_Thought_spread g0 g) (p3 : 0 ≤ l3 ∧ l3 ≤ 13) (p4 : 0 ≤ l4 ∧ l4 ≤ 9) (p5 : 0 ≤ l5 ∧ l5 ≤ 9) (M : Int) (hM : 14 - l3 ≤ M) (hH : ∀ (m3 : Int) (g : zi_M), zk_I g → zk_fr fr_Thought_spread g0 g → (0 ≤ m3 ∧ m3 ≤ 14) → 14 - m3 < M → H m3 g) (hK119 : ∀ (g : zi_M), zk_I g → zk_fr fr_Thought_spread g0 g → K119 g) (hQ : ∀ g' : zi_M, zk_I g' → zk_fr fr_Thought_spread g0 g' → Q 0 g') : w_Thought_spread_b75 l3 l4 l5 g H K119 Q := by
  unfold w_Thought_spread_b75
  refine ⟨⟨by omega, by omega⟩, ?_⟩
  have m_4 : (-1) ≤ (g 184 l4) ∧ (g 184 l4) ≤ 31 := I.1 184 l4
  refine ⟨⟨by omega, by omega⟩, ?_⟩
  refine ⟨fun c13 => ?_, fun c13 => ?_⟩
  · exact hH _ _ I F ⟨by omega, by omega⟩ (by omega)
  · refine ⟨⟨by omega, by omega⟩, ?_⟩
    have m_5 : (-1) ≤ (g 184 l5) ∧ (g 184 l5) ≤ 31 := I.1 184 l5
    refine ⟨⟨by omega, by omega⟩, ?_⟩
    refine ⟨fun c12 => ?_, fun c12 => ?_⟩
    · exact hH _ _ I F ⟨by omega, by omega⟩ (by omega)
    · first | have m_9 := (zi_xor_f (g 184 l5) 1).2.1 ⟨by omega, by omega, by omega, by omega⟩ | have m_9 := (zi_xor_f (g 184 l5) 1).2.2.1 ⟨by omega, by omega, by omega, by omega⟩ | have m_9 := (zi_xor_f (g 184 l5) 1).2.2.2 ⟨by omega, by omega, by omega, by omega⟩ | have m_9 := zi_r_xor (g 184 l5) 1
      intro g11 e_6
      have I_7 : zk_I g11 := by rw [e_6]; exact zk_upd (L := (-1)) (H := 31) rfl rfl I ⟨by omega, by omega⟩
      have F_8 : zk_fr fr_Thought_spread g0 g11 := by rw [e_6]; exact zk_fu F rfl
      exact hH _ _ I_7 F_8 ⟨by omega, by omega⟩ (by omega)
set_option maxRecDepth 100000 in
set_option maxHeartbeats 4000000 in
theorem k_Thought_spread_l10 {K119 : zi_M → Prop} {Q : Int → zi_M → Prop} {g0 : zi_M} (hK119 : ∀ (g : zi_M), zk_I g → zk_fr fr_Thought_spread g0 g → K119 g) (hQ : ∀ g' : zi_M, zk_I g' → zk_fr fr_Thought_spread g0 g' → Q 0 g') : ∀ (n : Nat) {l3 : Int} {g : zi_M}, zk_I g → zk_fr fr_Thought_spread g0 g → (0 ≤ l3 ∧ l3 ≤ 14) → 14 - l3 < (n : Int) → w_Thought_spread_l10 K119 Q n l3 g
  | 0, l3, g, I, F, b0, hm => by exfalso; omega
  | n + 1, l3, g, I, F, b0, hm => by
    unfold w_Thought_spread_l10
    have m_1 : 0 ≤ (g 36 5) ∧ (g 36 5) ≤ 14 := I.1 36 5
    refine ⟨⟨by omega, by omega⟩, ⟨by omega, by omega⟩, ?_⟩
    refine ⟨fun c19 => ?_, fun c19 => ?_⟩
    · exact hK119 _ I F
    · refine ⟨⟨by omega, by omega⟩, ?_⟩
      have m_2 : 0 ≤ (g 39 l3) ∧ (g 39 l3) ≤ 9 := I.1 39 l3
      refine ⟨⟨by omega, by omega⟩, ?_⟩
      have m_3 : (-1) ≤ (g 184 (g 39 l3)) ∧ (g 184 (g 39 l3)) ≤ 31 := I.1 184 (g 39 l3)
      refine ⟨⟨by omega, by omega⟩, ?_⟩
      refine ⟨fun c18 => ?_, fun c18 => ?_⟩
      · have m_10 : 0 ≤ (g 40 l3) ∧ (g 40 l3) ≤ 9 := I.1 40 l3
        exact k_Thought_spread_b75 I F ⟨by omega, by omega⟩ ⟨by omega, by omega⟩ ⟨by omega, by omega⟩ (n : Int) (by omega) (fun _ _ I F b0 hm => k_Thought_spread_l10 hK119 hQ n I F b0 hm) hK119 hQ
      · have m_11 : 0 ≤ (g 40 l3) ∧ (g 40 l3) ≤ 9 := I.1 40 l3
        refine ⟨⟨by omega, by omega⟩, ?_⟩
        have m_12 : (-1) ≤ (g 184 (g 40 l3)) ∧ (g 184 (g 40 l3)) ≤ 31 := I.1 184 (g 40 l3)
        refine ⟨⟨by omega, by omega⟩, ?_⟩
        refine ⟨fun c17 => ?_, fun c17 => ?_⟩
        · exact k_Thought_spread_b75 I F ⟨by omega, by omega⟩ ⟨by omega, by omega⟩ ⟨by omega, by omega⟩ (n : Int) (by omega) (fun _ _ I F b0 hm => k_Thought_spread_l10 hK119 hQ n I F b0 hm) hK119 hQ
        · first | have m_16 := (zi_xor_f (g 184 (g 39 l3)) 1).2.1 ⟨by omega, by omega, by omega, by omega⟩ | have m_16 := (zi_xor_f (g 184 (g 39 l3)) 1).2.2.1 ⟨by omega, by omega, by omega, by omega⟩ | have m_16 := (zi_xor_f (g 184 (g 39 l3)) 1).2.2.2 ⟨by omega, by omega, by omega, by omega⟩ | have m_16 := zi_r_xor (g 184 (g 39 l3)) 1
          intro g16 e_13
          have I_14 : zk_I g16 := by rw [e_13]; exact zk_upd (L := (-1)) (H := 31) rfl rfl I ⟨by omega, by omega⟩
          have F_15 : zk_fr fr_Thought_spread g0 g16 := by rw [e_13]; exact zk_fu F rfl
          exact k_Thought_spread_l10 hK119 hQ n I_14 F_15 ⟨by omega, by omega⟩ (by omega)
set_option maxRecDepth 100000 in
set_option maxHeartbeats 4000000 in
theorem k_Thought_spread_l2 {K125 : zi_M → Prop} {Q : Int → zi_M → Prop} {g0 : zi_M} (hK125 : ∀ (g : zi_M), zk_I g → zk_fr fr_Thought_spread g0 g → K125 g) (hQ : ∀ g' : zi_M, zk_I g' → zk_fr fr_Thought_spread g0 g' → Q 0 g') : ∀ (n : Nat) {l2 : Int} {g : zi_M}, zk_I g → zk_fr fr_Thought_spread g0 g → (0 ≤ l2 ∧ l2 ≤ 10) → 10 - l2 < (n : Int) → w_Thought_spread_l2 K125 Q n l2 g
  | 0, l2, g, I, F, b0, hm => by exfalso; omega
  | n + 1, l2, g, I, F, b0, hm => by
    unfold w_Thought_spread_l2
    refine ⟨⟨by omega, by omega⟩, ?_⟩
    refine ⟨fun c22 => ?_, fun c22 => ?_⟩
    · exact hK125 _ I F
    · refine ⟨((14 - 0 : Int).toNat + 1), k_Thought_spread_l10 (fun g20 I_17 F_18 => ?_) hQ ((14 - 0 : Int).toNat + 1) I F ⟨by omega, by omega⟩ (by omega)⟩
      exact k_Thought_spread_l2 hK125 hQ n I_17 F_18 ⟨by omega, by omega⟩ (by omega)
set_option maxRecDepth 100000 in
set_option maxHeartbeats 4000000 in
theorem k_Thought_spread {g : zi_M} {Q : Int → zi_M → Prop} (I : zk_I g) (hQ : ∀ g' : zi_M, zk_I g' → zk_fr fr_Thought_spread g g' → Q 0 g') : w_Thought_spread g Q := by
  unfold w_Thought_spread
  refine ⟨((10 - 0 : Int).toNat + 1), k_Thought_spread_l2 (fun g23 I_19 F_20 => ?_) hQ ((10 - 0 : Int).toNat + 1) I (zk_f0 _) ⟨by omega, by omega⟩ (by omega)⟩
  exact hQ _ I_19 F_20
-- SpoutNews$Thought.countColour(I)I
set_option maxRecDepth 100000 in
set_option maxHeartbeats 4000000 in
theorem k_Thought_countColour_l4 {g : zi_M} (I : zk_I g) {l1 : Int} {K29 : Int → zi_M → Prop} {Q : Int → zi_M → Prop} (q1 : 0 ≤ l1 ∧ l1 ≤ 29) (hK29 : ∀ (k2 : Int), (0 ≤ k2 ∧ k2 ≤ 10) → K29 k2 g) (hQ : ∀ v : Int, (0 ≤ v ∧ v ≤ 10) → Q v g) : ∀ (n : Nat) {l2 : Int} {l3 : Int}, (0 ≤ l2 ∧ l2 ≤ 10) → (0 ≤ l3 ∧ l3 ≤ 10) → (l2 ≤ l3) → 10 - l3 < (n : Int) → w_Thought_countColour_l4 l1 K29 Q n l2 l3 g
  | 0, l2, l3, b0, b1, b2, hm => by exfalso; omega
  | n + 1, l2, l3, b0, b1, b2, hm => by
    unfold w_Thought_countColour_l4
    refine ⟨⟨by omega, by omega⟩, ?_⟩
    refine ⟨fun c6 => ?_, fun c6 => ?_⟩
    · exact hK29 _ ⟨by omega, by omega⟩
    · refine ⟨⟨by omega, by omega⟩, ?_⟩
      have m_1 : (-1) ≤ (g 184 l3) ∧ (g 184 l3) ≤ 31 := I.1 184 l3
      refine ⟨⟨by omega, by omega⟩, ⟨by omega, by omega⟩, ?_⟩
      refine ⟨fun c5 => ?_, fun c5 => ?_⟩
      · exact k_Thought_countColour_l4 I q1 hK29 hQ n ⟨by omega, by omega⟩ ⟨by omega, by omega⟩ (by omega) (by omega)
      · exact k_Thought_countColour_l4 I q1 hK29 hQ n ⟨by omega, by omega⟩ ⟨by omega, by omega⟩ (by omega) (by omega)
set_option maxRecDepth 100000 in
set_option maxHeartbeats 4000000 in
theorem k_Thought_countColour {l1 : Int} {g : zi_M} {Q : Int → zi_M → Prop} (I : zk_I g) (p1 : 0 ≤ l1 ∧ l1 ≤ 29) (hQ : ∀ v : Int, (0 ≤ v ∧ v ≤ 10) → Q v g) : w_Thought_countColour l1 g Q := by
  unfold w_Thought_countColour
  refine ⟨((10 - 0 : Int).toNat + 1), k_Thought_countColour_l4 (l1 := l1) I ⟨by omega, by omega⟩ (fun k7 b_2 => ?_) hQ ((10 - 0 : Int).toNat + 1) ⟨by omega, by omega⟩ ⟨by omega, by omega⟩ (by omega) (by omega)⟩
  exact hQ _ ⟨by omega, by omega⟩
-- SpoutNews$Thought.partGroups(LSpoutNews$Told;)V
set_option maxRecDepth 100000 in
set_option maxHeartbeats 4000000 in
theorem k_Thought_partGroups_l20 {K112 : zi_M → Prop} {Q : Int → zi_M → Prop} {g0 : zi_M} (hK112 : ∀ (g : zi_M), zk_I g → zk_fr fr_Thought_partGroups g0 g → K112 g) (hQ : ∀ g' : zi_M, zk_I g' → zk_fr fr_Thought_partGroups g0 g' → Q 0 g') : ∀ (n : Nat) {l2 : Int} {g : zi_M}, zk_I g → zk_fr fr_Thought_partGroups g0 g → (0 ≤ l2 ∧ l2 ≤ 14) → (g 180 5 ≤ l2) → (g 180 6 ≤ 10 * l2) → 14 - l2 < (n : Int) → w_Thought_partGroups_l20 K112 Q n l2 g
  | 0, l2, g, I, F, b0, b1, b2, hm => by exfalso; omega
  | n + 1, l2, g, I, F, b0, b1, b2, hm => by
    unfold w_Thought_partGroups_l20
    have m_10 : 0 ≤ (g 36 5) ∧ (g 36 5) ≤ 14 := I.1 36 5
    refine ⟨⟨by omega, by omega⟩, ⟨by omega, by omega⟩, ?_⟩
    refine ⟨fun c24 => ?_, fun c24 => ?_⟩
    · exact hK112 _ I F
    · refine ⟨⟨by omega, by omega⟩, ?_⟩
      have m_11 : 0 ≤ (g 39 l2) ∧ (g 39 l2) ≤ 9 := I.1 39 l2
      refine ⟨⟨by omega, by omega⟩, ?_⟩
      have m_12 : (-1) ≤ (g 184 (g 39 l2)) ∧ (g 184 (g 39 l2)) ≤ 31 := I.1 184 (g 39 l2)
      refine ⟨⟨by omega, by omega⟩, ?_⟩
      refine ⟨fun c23 => ?_, fun c23 => ?_⟩
      · have m_13 : 0 ≤ (g 180 5) ∧ (g 180 5) ≤ 14 := I.1 180 5
        have m_14 : (-1) ≤ (g 180 6) ∧ (g 180 6) ≤ 140 := I.1 180 6
        exact k_Thought_partGroups_l20 hK112 hQ n I F ⟨by omega, by omega⟩ (by omega) (by omega) (by omega)
      · have m_18 : 0 ≤ (g 180 5) ∧ (g 180 5) ≤ 14 := I.1 180 5
        intro g9 e_15
        have I_16 : zk_I g9 := by rw [e_15]; exact zk_upd (L := (-1)) (H := 31) rfl rfl I ⟨by omega, by omega⟩
        have F_17 : zk_fr fr_Thought_partGroups g0 g9 := by rw [e_15]; exact zk_fu F (Or.inl rfl)
        refine k_Thought_spread I_16 (fun g11 I_19 F_20 => ?_)
        have F_21 : zk_fr fr_Thought_partGroups g0 g11 := zk_ft F_17 F_20 (fun a i => (fun h => (Or.inl h)))
        have m_22 : 0 ≤ (g11 180 5) ∧ (g11 180 5) ≤ 14 := I_19.1 180 5
        have m_23 : g11 180 5 = g9 180 5 := F_20 _ _ (by unfold fr_Thought_spread; omega)
        have m_24 : 0 ≤ (g9 180 5) ∧ (g9 180 5) ≤ 14 := I_16.1 180 5
        have m_25 : g9 180 5 = g 180 5 := by rw [e_15]; exact zi_u_ne (by decide)
        refine k_Thought_countColour I_19 ⟨by omega, by omega⟩ (fun v13 b_26 => ?_)
        refine k_Thought_countColour I_19 ⟨by omega, by omega⟩ (fun v16 b_27 => ?_)
        refine ⟨⟨by omega, by omega⟩, ⟨by omega, by omega⟩, ?_⟩
        have m_31 : (-1) ≤ (g11 180 6) ∧ (g11 180 6) ≤ 140 := I_19.1 180 6
        have m_32 : g11 180 6 = g9 180 6 := F_20 _ _ (by unfold fr_Thought_spread; omega)
        have m_33 : (-1) ≤ (g9 180 6) ∧ (g9 180 6) ≤ 140 := I_16.1 180 6
        have m_34 : g9 180 6 = g 180 6 := by rw [e_15]; exact zi_u_ne (by decide)
        have m_35 : (-1) ≤ (g 180 6) ∧ (g 180 6) ≤ 140 := I.1 180 6
        intro g21 e_28
        have I_29 : zk_I g21 := by rw [e_28]; exact zk_upd (L := (-1)) (H := 140) rfl rfl I_19 ⟨by omega, by omega⟩
        have F_30 : zk_fr fr_Thought_partGroups g0 g21 := by rw [e_28]; exact zk_fu F_21 (Or.inr (Or.inr ⟨rfl, rfl⟩))
        have m_39 : 0 ≤ (g21 180 5) ∧ (g21 180 5) ≤ 14 := I_29.1 180 5
        have m_40 : g21 180 5 = g11 180 5 := by rw [e_28]; exact zi_u_ni (by decide)
        intro g22 e_36
        have I_37 : zk_I g22 := by rw [e_36]; exact zk_upd (L := 0) (H := 14) rfl rfl I_29 ⟨by omega, by omega⟩
        have F_38 : zk_fr fr_Thought_partGroups g0 g22 := by rw [e_36]; exact zk_fu F_30 (Or.inr (Or.inl ⟨rfl, rfl⟩))
        have m_41 : 0 ≤ (g22 180 5) ∧ (g22 180 5) ≤ 14 := I_37.1 180 5
        have m_42 : g22 180 5 = (g21 180 5) + 1 := by rw [e_36]; exact zi_u_eq
        have m_43 : (-1) ≤ (g22 180 6) ∧ (g22 180 6) ≤ 140 := I_37.1 180 6
        have m_44 : g22 180 6 = g21 180 6 := by rw [e_36]; exact zi_u_ni (by decide)
        have m_45 : (-1) ≤ (g21 180 6) ∧ (g21 180 6) ≤ 140 := I_29.1 180 6
        have m_46 : g21 180 6 = (g11 180 6) + (max v13 v16) := by rw [e_28]; exact zi_u_eq
        exact k_Thought_partGroups_l20 hK112 hQ n I_37 F_38 ⟨by omega, by omega⟩ (by omega) (by omega) (by omega)
set_option maxRecDepth 100000 in
set_option maxHeartbeats 4000000 in
theorem k_Thought_partGroups_l114 {K158 : zi_M → Prop} {Q : Int → zi_M → Prop} {g0 : zi_M} (hK158 : ∀ (g : zi_M), zk_I g → zk_fr fr_Thought_partGroups g0 g → K158 g) (hQ : ∀ g' : zi_M, zk_I g' → zk_fr fr_Thought_partGroups g0 g' → Q 0 g') : ∀ (n : Nat) {l2 : Int} {g : zi_M}, zk_I g → zk_fr fr_Thought_partGroups g0 g → (0 ≤ l2 ∧ l2 ≤ 14) → 14 - l2 < (n : Int) → w_Thought_partGroups_l114 K158 Q n l2 g
  | 0, l2, g, I, F, b0, hm => by exfalso; omega
  | n + 1, l2, g, I, F, b0, hm => by
    unfold w_Thought_partGroups_l114
    have m_49 : 0 ≤ (g 36 5) ∧ (g 36 5) ≤ 14 := I.1 36 5
    refine ⟨⟨by omega, by omega⟩, ⟨by omega, by omega⟩, ?_⟩
    refine ⟨fun c35 => ?_, fun c35 => ?_⟩
    · exact hK158 _ I F
    · refine ⟨⟨by omega, by omega⟩, ?_⟩
      have m_50 : 0 ≤ (g 39 l2) ∧ (g 39 l2) ≤ 9 := I.1 39 l2
      refine ⟨⟨by omega, by omega⟩, ?_⟩
      have m_51 : 0 ≤ (g 40 l2) ∧ (g 40 l2) ≤ 9 := I.1 40 l2
      refine ⟨⟨by omega, by omega⟩, ?_⟩
      have m_52 : (-1) ≤ (g 184 (g 39 l2)) ∧ (g 184 (g 39 l2)) ≤ 31 := I.1 184 (g 39 l2)
      have m_53 : (-1) ≤ (g 184 (g 40 l2)) ∧ (g 184 (g 40 l2)) ≤ 31 := I.1 184 (g 40 l2)
      refine ⟨⟨by omega, by omega⟩, ⟨by omega, by omega⟩, ?_⟩
      refine ⟨fun c34 => ?_, fun c34 => ?_⟩
      · exact k_Thought_partGroups_l114 hK158 hQ n I F ⟨by omega, by omega⟩ (by omega)
      · intro g33 e_54
        have I_55 : zk_I g33 := by rw [e_54]; exact zk_upd (L := (-1)) (H := 140) rfl rfl I ⟨by omega, by omega⟩
        have F_56 : zk_fr fr_Thought_partGroups g0 g33 := by rw [e_54]; exact zk_fu F (Or.inr (Or.inr ⟨rfl, rfl⟩))
        exact k_Thought_partGroups_l114 hK158 hQ n I_55 F_56 ⟨by omega, by omega⟩ (by omega)
set_option maxRecDepth 100000 in
set_option maxHeartbeats 4000000 in
theorem k_Thought_partGroups {g : zi_M} {Q : Int → zi_M → Prop} (I : zk_I g) (hQ : ∀ g' : zi_M, zk_I g' → zk_fr fr_Thought_partGroups g g' → Q 0 g') : w_Thought_partGroups g Q := by
  unfold w_Thought_partGroups
  intro g1 e_1
  have I_2 : zk_I g1 := by rw [e_1]; exact zk_fill (L := (-1)) (H := 31) (fun _ => rfl) (fun _ => rfl) I ⟨by omega, by omega⟩
  have F_3 : zk_fr fr_Thought_partGroups g g1 := by rw [e_1]; exact zk_ff (zk_f0 _) (fun i => (Or.inl rfl))
  intro g2 e_4
  have I_5 : zk_I g2 := by rw [e_4]; exact zk_upd (L := 0) (H := 14) rfl rfl I_2 ⟨by omega, by omega⟩
  have F_6 : zk_fr fr_Thought_partGroups g g2 := by rw [e_4]; exact zk_fu F_3 (Or.inr (Or.inl ⟨rfl, rfl⟩))
  intro g3 e_7
  have I_8 : zk_I g3 := by rw [e_7]; exact zk_upd (L := (-1)) (H := 140) rfl rfl I_5 ⟨by omega, by omega⟩
  have F_9 : zk_fr fr_Thought_partGroups g g3 := by rw [e_7]; exact zk_fu F_6 (Or.inr (Or.inr ⟨rfl, rfl⟩))
  have m_59 : 0 ≤ (g3 180 5) ∧ (g3 180 5) ≤ 14 := I_8.1 180 5
  have m_60 : g3 180 5 = g2 180 5 := by rw [e_7]; exact zi_u_ni (by decide)
  have m_61 : 0 ≤ (g2 180 5) ∧ (g2 180 5) ≤ 14 := I_5.1 180 5
  have m_62 : g2 180 5 = 0 := by rw [e_4]; exact zi_u_eq
  have m_63 : (-1) ≤ (g3 180 6) ∧ (g3 180 6) ≤ 140 := I_8.1 180 6
  have m_64 : g3 180 6 = 0 := by rw [e_7]; exact zi_u_eq
  refine ⟨((14 - 0 : Int).toNat + 1), k_Thought_partGroups_l20 (fun g25 I_47 F_48 => ?_) hQ ((14 - 0 : Int).toNat + 1) I_8 F_9 ⟨by omega, by omega⟩ (by omega) (by omega) (by omega)⟩
  refine ⟨((14 - 0 : Int).toNat + 1), k_Thought_partGroups_l114 (fun g36 I_57 F_58 => ?_) hQ ((14 - 0 : Int).toNat + 1) I_47 F_48 ⟨by omega, by omega⟩ (by omega)⟩
  exact hQ _ I_57 F_58
-- SpoutNews.parts(I)I
set_option maxRecDepth 100000 in
set_option maxHeartbeats 4000000 in
theorem k_S_parts_b11 {l1 : Int} {Q : Int → zi_M → Prop} {g : zi_M} {g0 : zi_M} (I : zk_I g) (F : zk_fr fr_S_parts g0 g) (p1 : 0 ≤ l1 ∧ l1 ≤ 1) (hQ : ∀ (v : Int) (g' : zi_M), zk_I g' → zk_fr fr_S_parts g0 g' → ((-1) ≤ v ∧ v ≤ 140) → Q v g') : w_S_parts_b11 l1 g Q := by
  unfold w_S_parts_b11
  refine k_Thought_partGroups I (fun g3 I_1 F_2 => ?_)
  have F_3 : zk_fr fr_S_parts g0 g3 := zk_ft F F_2 (fun a i => (fun h => Or.elim h (fun h => (Or.inl h)) (fun h => Or.elim h (fun h => (Or.inr (Or.inl h))) (fun h => (Or.inr (Or.inr h))))))
  refine ⟨⟨by omega, by omega⟩, ?_⟩
  refine ⟨fun c6 => ?_, fun c6 => ?_⟩
  · have m_4 : 0 ≤ (g3 180 5) ∧ (g3 180 5) ≤ 14 := I_1.1 180 5
    exact hQ _ _ I_1 F_3 ⟨by omega, by omega⟩
  · have m_5 : (-1) ≤ (g3 180 6) ∧ (g3 180 6) ≤ 140 := I_1.1 180 6
    exact hQ _ _ I_1 F_3 ⟨by omega, by omega⟩
set_option maxRecDepth 100000 in
set_option maxHeartbeats 4000000 in
theorem k_S_parts {l1 : Int} {g : zi_M} {Q : Int → zi_M → Prop} (I : zk_I g) (p1 : (-2147483648) ≤ l1 ∧ l1 ≤ 2147483647) (hQ : ∀ (v : Int) (g' : zi_M), zk_I g' → zk_fr fr_S_parts g g' → ((-1) ≤ v ∧ v ≤ 140) → Q v g') : w_S_parts l1 g Q := by
  unfold w_S_parts
  refine ⟨⟨by omega, by omega⟩, ?_⟩
  refine ⟨fun c8 => ?_, fun c8 => ?_⟩
  · exact k_S_parts_b11 I (zk_f0 _) ⟨by omega, by omega⟩ hQ
  · refine ⟨fun c7 => ?_, fun c7 => ?_⟩
    · exact k_S_parts_b11 I (zk_f0 _) ⟨by omega, by omega⟩ hQ
    · exact hQ _ _ I (zk_f0 _) ⟨by omega, by omega⟩
-- SpoutNewsModel.besideAll(I)I
set_option maxRecDepth 100000 in
set_option maxHeartbeats 4000000 in
theorem k_M_besideAll_l4 {g : zi_M} (I : zk_I g) {l1 : Int} {K34 : Int → zi_M → Prop} {Q : Int → zi_M → Prop} (q1 : 0 ≤ l1 ∧ l1 ≤ 1023) (hK34 : ∀ (k2 : Int), (0 ≤ k2 ∧ k2 ≤ 1023) → K34 k2 g) (hQ : ∀ v : Int, (0 ≤ v ∧ v ≤ 1023) → Q v g) : ∀ (n : Nat) {l2 : Int} {l3 : Int}, (0 ≤ l2 ∧ l2 ≤ 1023) → (0 ≤ l3 ∧ l3 ≤ 10) → 10 - l3 < (n : Int) → w_M_besideAll_l4 l1 K34 Q n l2 l3 g
  | 0, l2, l3, b0, b1, hm => by exfalso; omega
  | n + 1, l2, l3, b0, b1, hm => by
    unfold w_M_besideAll_l4
    refine ⟨⟨by omega, by omega⟩, ?_⟩
    refine ⟨fun c7 => ?_, fun c7 => ?_⟩
    · exact hK34 _ ⟨by omega, by omega⟩
    · have m_3 := zi_r_shr (l1) (l3)
      try have m_4 := (zi_shr_f (l1) (l3)).2 ⟨by omega, by omega⟩
      have m_5 := zi_r_and (zi_shr l1 l3) 1
      try have m_6 := (zi_and_f (zi_shr l1 l3) 1).2.1 ⟨by omega, by omega⟩
      try have m_7 := (zi_and_f (zi_shr l1 l3) 1).2.2 ⟨by omega, by omega⟩
      refine k_M_has I ⟨by omega, by omega⟩ ⟨by omega, by omega⟩ (fun v2 b_1 b_2 => ?_)
      refine ⟨fun c6 => ?_, fun c6 => ?_⟩
      · exact k_M_besideAll_l4 I q1 hK34 hQ n ⟨by omega, by omega⟩ ⟨by omega, by omega⟩ (by omega)
      · refine ⟨⟨by omega, by omega⟩, ?_⟩
        have m_8 : 0 ≤ (g 242 l3) ∧ (g 242 l3) ≤ 1023 := I.1 242 l3
        first | have m_9 := (zi_or_f l2 (g 242 l3)).2.1 ⟨by omega, by omega, by omega, by omega⟩ | have m_9 := (zi_or_f l2 (g 242 l3)).2.2.1 ⟨by omega, by omega, by omega, by omega⟩ | have m_9 := (zi_or_f l2 (g 242 l3)).2.2.2.1 ⟨by omega, by omega, by omega, by omega⟩ | have m_9 := (zi_or_f l2 (g 242 l3)).2.2.2.2.1 ⟨by omega, by omega, by omega, by omega⟩ | have m_9 := (zi_or_f l2 (g 242 l3)).2.2.2.2.2 ⟨by omega, by omega, by omega, by omega⟩ | have m_9 := zi_r_or l2 (g 242 l3)
        exact k_M_besideAll_l4 I q1 hK34 hQ n ⟨by omega, by omega⟩ ⟨by omega, by omega⟩ (by omega)
set_option maxRecDepth 100000 in
set_option maxHeartbeats 4000000 in
theorem k_M_besideAll {l1 : Int} {g : zi_M} {Q : Int → zi_M → Prop} (I : zk_I g) (p1 : 0 ≤ l1 ∧ l1 ≤ 1023) (hQ : ∀ v : Int, (0 ≤ v ∧ v ≤ 1023) → Q v g) : w_M_besideAll l1 g Q := by
  unfold w_M_besideAll
  refine ⟨((10 - 0 : Int).toNat + 1), k_M_besideAll_l4 (l1 := l1) I ⟨by omega, by omega⟩ (fun k8 b_10 => ?_) hQ ((10 - 0 : Int).toNat + 1) ⟨by omega, by omega⟩ ⟨by omega, by omega⟩ (by omega)⟩
  exact hQ _ ⟨by omega, by omega⟩
-- SpoutNewsModel.sideFrom(IZ)I
set_option maxRecDepth 100000 in
set_option maxHeartbeats 4000000 in
theorem k_M_sideFrom_l10 {g : zi_M} (I : zk_I g) {K42 : Int → Int → zi_M → Prop} {Q : Int → zi_M → Prop} (hK42 : ∀ (k3 : Int) (k4 : Int), (0 ≤ k3 ∧ k3 ≤ 1023) → (0 ≤ k4 ∧ k4 ≤ 1023) → K42 k3 k4 g) (hQ : ∀ v : Int, (0 ≤ v ∧ v ≤ 1023) → Q v g) : ∀ (n : Nat) {l3 : Int} {l4 : Int} {l5 : Int}, (0 ≤ l3 ∧ l3 ≤ 1023) → (0 ≤ l4 ∧ l4 ≤ 1023) → (0 ≤ l5 ∧ l5 ≤ 10) → 10 - l5 < (n : Int) → w_M_sideFrom_l10 K42 Q n l3 l4 l5 g
  | 0, l3, l4, l5, b0, b1, b2, hm => by exfalso; omega
  | n + 1, l3, l4, l5, b0, b1, b2, hm => by
    unfold w_M_sideFrom_l10
    refine ⟨⟨by omega, by omega⟩, ?_⟩
    refine ⟨fun c8 => ?_, fun c8 => ?_⟩
    · exact hK42 _ _ ⟨by omega, by omega⟩ ⟨by omega, by omega⟩
    · refine k_M_besideAll I ⟨by omega, by omega⟩ (fun v2 b_1 => ?_)
      first | have m_2 := (zi_or_f l4 v2).2.1 ⟨by omega, by omega, by omega, by omega⟩ | have m_2 := (zi_or_f l4 v2).2.2.1 ⟨by omega, by omega, by omega, by omega⟩ | have m_2 := (zi_or_f l4 v2).2.2.2.1 ⟨by omega, by omega, by omega, by omega⟩ | have m_2 := (zi_or_f l4 v2).2.2.2.2.1 ⟨by omega, by omega, by omega, by omega⟩ | have m_2 := (zi_or_f l4 v2).2.2.2.2.2 ⟨by omega, by omega, by omega, by omega⟩ | have m_2 := zi_r_or l4 v2
      refine k_M_besideAll I ⟨by omega, by omega⟩ (fun v5 b_3 => ?_)
      first | have m_4 := (zi_or_f l3 v5).2.1 ⟨by omega, by omega, by omega, by omega⟩ | have m_4 := (zi_or_f l3 v5).2.2.1 ⟨by omega, by omega, by omega, by omega⟩ | have m_4 := (zi_or_f l3 v5).2.2.2.1 ⟨by omega, by omega, by omega, by omega⟩ | have m_4 := (zi_or_f l3 v5).2.2.2.2.1 ⟨by omega, by omega, by omega, by omega⟩ | have m_4 := (zi_or_f l3 v5).2.2.2.2.2 ⟨by omega, by omega, by omega, by omega⟩ | have m_4 := zi_r_or l3 v5
      exact k_M_sideFrom_l10 I hK42 hQ n ⟨by omega, by omega⟩ ⟨by omega, by omega⟩ ⟨by omega, by omega⟩ (by omega)
set_option maxRecDepth 100000 in
set_option maxHeartbeats 4000000 in
theorem k_M_sideFrom {l1 : Int} {l2 : Int} {g : zi_M} {Q : Int → zi_M → Prop} (I : zk_I g) (p1 : 0 ≤ l1 ∧ l1 ≤ 9) (p2 : 0 ≤ l2 ∧ l2 ≤ 1) (hQ : ∀ v : Int, (0 ≤ v ∧ v ≤ 1023) → Q v g) : w_M_sideFrom l1 l2 g Q := by
  unfold w_M_sideFrom
  have m_7 := zi_r_shl 1 l1
  try have m_8 := (zi_shl_f l1).2.1 ⟨by omega, by omega⟩
  first | have m_9 := (zi_shl_f l1).2.2.1 ⟨by omega, by omega⟩ | have m_10 := (zi_shl_f l1).2.2.2.1 ⟨by omega, by omega⟩ | have m_11 := (zi_shl_f l1).2.2.2.2.1 ⟨by omega, by omega⟩ | have m_12 := (zi_shl_f l1).2.2.2.2.2.1 ⟨by omega, by omega⟩ | have m_13 := (zi_shl_f l1).2.2.2.2.2.2 ⟨by omega, by omega⟩ | skip
  refine ⟨((10 - 0 : Int).toNat + 1), k_M_sideFrom_l10 I (fun k9 k10 b_5 b_6 => ?_) hQ ((10 - 0 : Int).toNat + 1) ⟨by omega, by omega⟩ ⟨by omega, by omega⟩ ⟨by omega, by omega⟩ (by omega)⟩
  refine ⟨⟨by omega, by omega⟩, ?_⟩
  refine ⟨fun c13 => ?_, fun c13 => ?_⟩
  · exact hQ _ ⟨by omega, by omega⟩
  · exact hQ _ ⟨by omega, by omega⟩
-- SpoutNewsModel.parts(I)I
set_option maxRecDepth 100000 in
set_option maxHeartbeats 4000000 in
theorem k_M_parts_b101 {l1 : Int} {l2 : Int} {l3 : Int} {l4 : Int} {l5 : Int} {l6 : Int} {l7 : Int} {H : Int → Int → Int → Int → zi_M → Prop} {K99 : zi_M → Prop} {K128 : Int → Int → zi_M → Prop} {Q : Int → zi_M → Prop} {g : zi_M} {g0 : zi_M} (I : zk_I g) (F : zk_fr fr_M_parts g0 g) (p1 : (-2147483648) ≤ l1 ∧ l1 ≤ 2147483647) (p2 : 0 ≤ l2 ∧ l2 ≤ 1023) (p3 : 1 ≤ l3 ∧ l3 ≤ 10) (p4 : 0 ≤ l4 ∧ l4 ≤ 700000) (p5 : 0 ≤ l5 ∧ l5 ≤ 9) (p6 : 0 ≤ l6 ∧ l6 ≤ 1023) (p7 : 0 ≤ l7 ∧ l7 ≤ 1023) (ix0 : l3 ≤ l5 + 1) (ix1 : l4 ≤ 65535 * l5) (M : Int) (hM : 10 - l5 ≤ M) (hH : ∀ (m2 : Int) (m3 : Int) (m4 : Int) (m5 : Int) (g : zi_M), zk_I g → zk_fr fr_M_parts g0 g → (0 ≤ m2 ∧ m2 ≤ 1023) → (0 ≤ m3 ∧ m3 ≤ 10) → (0 ≤ m4 ∧ m4 ≤ 700000) → (0 ≤ m5 ∧ m5 ≤ 10) → (m3 ≤ m5) → (m4 ≤ 65535 * m5) → 10 - m5 < M → H m2 m3 m4 m5 g) (hK99 : ∀ (g : zi_M), zk_I g → zk_fr fr_M_parts g0 g → K99 g) (hK128 : ∀ (k3 : Int) (k4 : Int) (g : zi_M), zk_I g → zk_fr fr_M_parts g0 g → (0 ≤ k3 ∧ k3 ≤ 10) → (0 ≤ k4 ∧ k4 ≤ 700000) → K128 k3 k4 g) (hQ : ∀ (v : Int) (g' : zi_M), zk_I g' → zk_fr fr_M_parts g0 g' → ((-1) ≤ v ∧ v ≤ 700000) → Q v g') : w_M_parts_b101 l1 l2 l3 l4 l5 l6 l7 g H K99 K128 Q := by
  unfold w_M_parts_b101
  refine k_M_onesOf I ⟨by omega, by omega⟩ (fun v17 b_20 b_21 => ?_)
  refine k_M_onesOf I ⟨by omega, by omega⟩ (fun v20 b_22 b_23 => ?_)
  refine k_M_greater I ⟨by omega, by omega⟩ ⟨by omega, by omega⟩ (fun v23 b_24 b_25 => ?_)
  exact hH _ _ _ _ _ I F ⟨by omega, by omega⟩ ⟨by omega, by omega⟩ ⟨by omega, by omega⟩ ⟨by omega, by omega⟩ (by omega) (by omega) (by omega)
set_option maxRecDepth 100000 in
set_option maxHeartbeats 4000000 in
theorem k_M_parts_l27 {l1 : Int} {K99 : zi_M → Prop} {K128 : Int → Int → zi_M → Prop} {Q : Int → zi_M → Prop} {g0 : zi_M} (q1 : (-2147483648) ≤ l1 ∧ l1 ≤ 2147483647) (hK99 : ∀ (g : zi_M), zk_I g → zk_fr fr_M_parts g0 g → K99 g) (hK128 : ∀ (k3 : Int) (k4 : Int) (g : zi_M), zk_I g → zk_fr fr_M_parts g0 g → (0 ≤ k3 ∧ k3 ≤ 10) → (0 ≤ k4 ∧ k4 ≤ 700000) → K128 k3 k4 g) (hQ : ∀ (v : Int) (g' : zi_M), zk_I g' → zk_fr fr_M_parts g0 g' → ((-1) ≤ v ∧ v ≤ 700000) → Q v g') : ∀ (n : Nat) {l2 : Int} {l3 : Int} {l4 : Int} {l5 : Int} {g : zi_M}, zk_I g → zk_fr fr_M_parts g0 g → (0 ≤ l2 ∧ l2 ≤ 1023) → (0 ≤ l3 ∧ l3 ≤ 10) → (0 ≤ l4 ∧ l4 ≤ 700000) → (0 ≤ l5 ∧ l5 ≤ 10) → (l3 ≤ l5) → (l4 ≤ 65535 * l5) → 10 - l5 < (n : Int) → w_M_parts_l27 l1 K99 K128 Q n l2 l3 l4 l5 g
  | 0, l2, l3, l4, l5, g, I, F, b0, b1, b2, b3, b4, b5, hm => by exfalso; omega
  | n + 1, l2, l3, l4, l5, g, I, F, b0, b1, b2, b3, b4, b5, hm => by
    unfold w_M_parts_l27
    refine ⟨⟨by omega, by omega⟩, ?_⟩
    refine ⟨fun c31 => ?_, fun c31 => ?_⟩
    · exact hK128 _ _ _ I F ⟨by omega, by omega⟩ ⟨by omega, by omega⟩
    · refine ⟨⟨by omega, by omega⟩, ?_⟩
      have m_7 : 0 ≤ (g 242 l5) ∧ (g 242 l5) ≤ 1023 := I.1 242 l5
      refine ⟨⟨by omega, by omega⟩, ?_⟩
      refine ⟨fun c30 => ?_, fun c30 => ?_⟩
      · exact k_M_parts_l27 q1 hK99 hK128 hQ n I F ⟨by omega, by omega⟩ ⟨by omega, by omega⟩ ⟨by omega, by omega⟩ ⟨by omega, by omega⟩ (by omega) (by omega) (by omega)
      · have m_10 := zi_r_shr (l2) (l5)
        try have m_11 := (zi_shr_f (l2) (l5)).2 ⟨by omega, by omega⟩
        have m_12 := zi_r_and (zi_shr l2 l5) 1
        try have m_13 := (zi_and_f (zi_shr l2 l5) 1).2.1 ⟨by omega, by omega⟩
        try have m_14 := (zi_and_f (zi_shr l2 l5) 1).2.2 ⟨by omega, by omega⟩
        refine k_M_has I ⟨by omega, by omega⟩ ⟨by omega, by omega⟩ (fun v8 b_8 b_9 => ?_)
        refine ⟨fun c29 => ?_, fun c29 => ?_⟩
        · refine k_M_sideFrom I ⟨by omega, by omega⟩ ⟨by omega, by omega⟩ (fun v11 b_15 => ?_)
          refine k_M_sideFrom I ⟨by omega, by omega⟩ ⟨by omega, by omega⟩ (fun v14 b_16 => ?_)
          have m_17 := zi_r_and v11 v14
          try have m_18 := (zi_and_f v11 v14).2.1 ⟨by omega, by omega⟩
          try have m_19 := (zi_and_f v11 v14).2.2 ⟨by omega, by omega⟩
          refine ⟨fun c28 => ?_, fun c28 => ?_⟩
          · first | have m_26 := (zi_or_f l2 v11).2.1 ⟨by omega, by omega, by omega, by omega⟩ | have m_26 := (zi_or_f l2 v11).2.2.1 ⟨by omega, by omega, by omega, by omega⟩ | have m_26 := (zi_or_f l2 v11).2.2.2.1 ⟨by omega, by omega, by omega, by omega⟩ | have m_26 := (zi_or_f l2 v11).2.2.2.2.1 ⟨by omega, by omega, by omega, by omega⟩ | have m_26 := (zi_or_f l2 v11).2.2.2.2.2 ⟨by omega, by omega, by omega, by omega⟩ | have m_26 := zi_r_or l2 v11
            first | have m_27 := (zi_or_f (zi_or l2 v11) v14).2.1 ⟨by omega, by omega, by omega, by omega⟩ | have m_27 := (zi_or_f (zi_or l2 v11) v14).2.2.1 ⟨by omega, by omega, by omega, by omega⟩ | have m_27 := (zi_or_f (zi_or l2 v11) v14).2.2.2.1 ⟨by omega, by omega, by omega, by omega⟩ | have m_27 := (zi_or_f (zi_or l2 v11) v14).2.2.2.2.1 ⟨by omega, by omega, by omega, by omega⟩ | have m_27 := (zi_or_f (zi_or l2 v11) v14).2.2.2.2.2 ⟨by omega, by omega, by omega, by omega⟩ | have m_27 := zi_r_or (zi_or l2 v11) v14
            exact k_M_parts_b101 I F ⟨by omega, by omega⟩ ⟨by omega, by omega⟩ ⟨by omega, by omega⟩ ⟨by omega, by omega⟩ ⟨by omega, by omega⟩ ⟨by omega, by omega⟩ ⟨by omega, by omega⟩ (by omega) (by omega) (n : Int) (by omega) (fun _ _ _ _ _ I F b0 b1 b2 b3 b4 b5 hm => k_M_parts_l27 q1 hK99 hK128 hQ n I F b0 b1 b2 b3 b4 b5 hm) hK99 hK128 hQ
          · refine ⟨⟨by omega, by omega⟩, ?_⟩
            refine ⟨fun c27 => ?_, fun c27 => ?_⟩
            · first | have m_28 := (zi_or_f l2 v11).2.1 ⟨by omega, by omega, by omega, by omega⟩ | have m_28 := (zi_or_f l2 v11).2.2.1 ⟨by omega, by omega, by omega, by omega⟩ | have m_28 := (zi_or_f l2 v11).2.2.2.1 ⟨by omega, by omega, by omega, by omega⟩ | have m_28 := (zi_or_f l2 v11).2.2.2.2.1 ⟨by omega, by omega, by omega, by omega⟩ | have m_28 := (zi_or_f l2 v11).2.2.2.2.2 ⟨by omega, by omega, by omega, by omega⟩ | have m_28 := zi_r_or l2 v11
              first | have m_29 := (zi_or_f (zi_or l2 v11) v14).2.1 ⟨by omega, by omega, by omega, by omega⟩ | have m_29 := (zi_or_f (zi_or l2 v11) v14).2.2.1 ⟨by omega, by omega, by omega, by omega⟩ | have m_29 := (zi_or_f (zi_or l2 v11) v14).2.2.2.1 ⟨by omega, by omega, by omega, by omega⟩ | have m_29 := (zi_or_f (zi_or l2 v11) v14).2.2.2.2.1 ⟨by omega, by omega, by omega, by omega⟩ | have m_29 := (zi_or_f (zi_or l2 v11) v14).2.2.2.2.2 ⟨by omega, by omega, by omega, by omega⟩ | have m_29 := zi_r_or (zi_or l2 v11) v14
              exact k_M_parts_b101 I F ⟨by omega, by omega⟩ ⟨by omega, by omega⟩ ⟨by omega, by omega⟩ ⟨by omega, by omega⟩ ⟨by omega, by omega⟩ ⟨by omega, by omega⟩ ⟨by omega, by omega⟩ (by omega) (by omega) (n : Int) (by omega) (fun _ _ _ _ _ I F b0 b1 b2 b3 b4 b5 hm => k_M_parts_l27 q1 hK99 hK128 hQ n I F b0 b1 b2 b3 b4 b5 hm) hK99 hK128 hQ
            · exact hK99 _ I F
        · exact k_M_parts_l27 q1 hK99 hK128 hQ n I F ⟨by omega, by omega⟩ ⟨by omega, by omega⟩ ⟨by omega, by omega⟩ ⟨by omega, by omega⟩ (by omega) (by omega) (by omega)
set_option maxRecDepth 100000 in
set_option maxHeartbeats 4000000 in
theorem k_M_parts {l1 : Int} {g : zi_M} {Q : Int → zi_M → Prop} (I : zk_I g) (p1 : (-2147483648) ≤ l1 ∧ l1 ≤ 2147483647) (hQ : ∀ (v : Int) (g' : zi_M), zk_I g' → zk_fr fr_M_parts g g' → ((-1) ≤ v ∧ v ≤ 700000) → Q v g') : w_M_parts l1 g Q := by
  unfold w_M_parts
  intro g1 e_1
  have I_2 : zk_I g1 := by rw [e_1]; exact zk_upd (L := (-2147483648)) (H := 2147483647) rfl rfl I ⟨by omega, by omega⟩
  have F_3 : zk_fr fr_M_parts g g1 := by rw [e_1]; exact zk_fu (zk_f0 _) ⟨rfl, rfl⟩
  refine k_M_isIn I_2 ⟨by omega, by omega⟩ ⟨by omega, by omega⟩ ⟨by omega, by omega⟩ (fun v2 b_4 b_5 b_6 => ?_)
  refine ⟨fun c39 => ?_, fun c39 => ?_⟩
  · refine ⟨((10 - 0 : Int).toNat + 1), k_M_parts_l27 (l1 := l1) ⟨by omega, by omega⟩ (fun g32 I_30 F_31 => ?_) (fun k33 k34 g35 I_32 F_33 b_34 b_35 => ?_) hQ ((10 - 0 : Int).toNat + 1) I_2 F_3 ⟨by omega, by omega⟩ ⟨by omega, by omega⟩ ⟨by omega, by omega⟩ ⟨by omega, by omega⟩ (by omega) (by omega) (by omega)⟩
    · exact hQ _ _ I_30 F_31 ⟨by omega, by omega⟩
    · refine ⟨⟨by omega, by omega⟩, ?_⟩
      refine ⟨fun c37 => ?_, fun c37 => ?_⟩
      · exact hQ _ _ I_32 F_33 ⟨by omega, by omega⟩
      · exact hQ _ _ I_32 F_33 ⟨by omega, by omega⟩
  · exact hQ _ _ I_2 F_3 ⟨by omega, by omega⟩
