-- by program (wip/gen/mkz.py)
-- SpoutNews.again(I)I
set_option maxRecDepth 100000 in
set_option maxHeartbeats 400000 in
theorem k_S_again {l1 : Int} {g : zi_M} {Q : Int → zi_M → Prop} (I : zk_I g) (p1 : (-2147483648) ≤ l1 ∧ l1 ≤ 2147483647) (hQ : ∀ v : Int, ((-2147483648) ≤ v ∧ v ≤ 2147483647) → Q v g) : w_S_again l1 g Q := by
  unfold w_S_again
  refine ⟨⟨by omega, by omega⟩, ?_⟩
  refine ⟨fun c12 => ?_, fun c12 => ?_⟩
  · refine k_S_isWord I ⟨by omega, by omega⟩ (fun v2 b_1 b_2 b_3 => ?_)
    refine ⟨fun c8 => ?_, fun c8 => ?_⟩
    · exact hQ _ ⟨by omega, by omega⟩
    · refine k_Thought_stepsAgain I ⟨by omega, by omega⟩ (fun v5 b_4 => ?_)
      exact hQ _ ⟨by omega, by omega⟩
  · refine k_Thought_allAgain I (fun v9 b_5 => ?_)
    exact hQ _ ⟨by omega, by omega⟩
-- SpoutNewsModel.isOneToOne()Z
set_option maxRecDepth 100000 in
set_option maxHeartbeats 400000 in
theorem k_M_isOneToOne_l4 {g : zi_M} (I : zk_I g) {K29 : Int → zi_M → Prop} {Q : Int → zi_M → Prop} (hK29 : ∀ (k1 : Int), ((-2147483648) ≤ k1 ∧ k1 ≤ 2147483647) → K29 k1 g) (hQ : ∀ v : Int, (0 ≤ v ∧ v ≤ 1) → Q v g) : ∀ (n : Nat) {l1 : Int} {l2 : Int}, ((-2147483648) ≤ l1 ∧ l1 ≤ 2147483647) → (0 ≤ l2 ∧ l2 ≤ 16) → 16 - l2 < (n : Int) → w_M_isOneToOne_l4 K29 Q n l1 l2 g
  | 0, l1, l2, b0, b1, hm => by exfalso; omega
  | n + 1, l1, l2, b0, b1, hm => by
    unfold w_M_isOneToOne_l4
    refine ⟨⟨by omega, by omega⟩, ?_⟩
    refine ⟨fun c3 => ?_, fun c3 => ?_⟩
    · exact hK29 _ ⟨by omega, by omega⟩
    · refine ⟨⟨by omega, by omega⟩, ?_⟩
      have m_1 := zk_latin I (i := l2)
      have m_2 := zi_shl_f (l2 + (g 243 l2))
      have m_3 := zi_or_f l1 (zi_shl 1 (l2 + (g 243 l2)))
      exact k_M_isOneToOne_l4 I hK29 hQ n ⟨by omega, by omega⟩ ⟨by omega, by omega⟩ (by omega)
set_option maxRecDepth 100000 in
set_option maxHeartbeats 400000 in
theorem k_M_isOneToOne {g : zi_M} {Q : Int → zi_M → Prop} (I : zk_I g) (hQ : ∀ v : Int, (0 ≤ v ∧ v ≤ 1) → Q v g) : w_M_isOneToOne g Q := by
  unfold w_M_isOneToOne
  refine ⟨((16 - 0).toNat + 1), k_M_isOneToOne_l4 I (fun k4 b_4 => ?_) hQ ((16 - 0).toNat + 1) ⟨by omega, by omega⟩ ⟨by omega, by omega⟩ (by omega)⟩
  refine ⟨⟨by omega, by omega⟩, ?_⟩
  refine ⟨fun c7 => ?_, fun c7 => ?_⟩
  · exact hQ _ ⟨by omega, by omega⟩
  · exact hQ _ ⟨by omega, by omega⟩
-- SpoutNewsModel.comingFrom(I)I
set_option maxRecDepth 100000 in
set_option maxHeartbeats 400000 in
theorem k_M_comingFrom {l1 : Int} {g : zi_M} {Q : Int → zi_M → Prop} (I : zk_I g) (p1 : 0 ≤ l1 ∧ l1 ≤ 15) (hQ : ∀ v : Int, (0 ≤ v) → Q v g) : w_M_comingFrom l1 g Q := by
  sorry
-- SpoutNewsModel.rest(II)I
set_option maxRecDepth 100000 in
set_option maxHeartbeats 400000 in
theorem k_M_rest {l1 : Int} {l2 : Int} {g : zi_M} {Q : Int → zi_M → Prop} (I : zk_I g) (hQ : ∀ v : Int, (¬ l2 = 0 → v = Int.tmod l1 l2) → (l2 = 0 → v = l1) → Q v g) : w_M_rest l1 l2 g Q := by
  unfold w_M_rest
  refine ⟨⟨by omega, by omega⟩, ?_⟩
  refine ⟨fun c4 => ?_, fun c4 => ?_⟩
  · refine ⟨⟨by omega, by omega⟩, (by omega), ?_⟩
    have m_1 := zi_tmod_f l1 l2
    exact hQ _ (by intros; omega) (by intros; omega)
  · have m_2 := zi_tmod_f l1 l2
    exact hQ _ (by intros; omega) (by intros; omega)
-- SpoutNewsModel.common(II)I
set_option maxRecDepth 100000 in
set_option maxHeartbeats 400000 in
theorem k_M_common {l1 : Int} {l2 : Int} {g : zi_M} {Q : Int → zi_M → Prop} (I : zk_I g) (p1 : (-2147483648) ≤ l1 ∧ l1 ≤ 2147483647) (p2 : 0 ≤ l2) (hQ : ∀ v : Int, Q v g) : w_M_common l1 l2 g Q := by
  sorry
-- SpoutNewsModel.again(I)I
def fr_M_again (a : Nat) (i : Int) : Prop := (a = 214 ∧ i = 0)
set_option maxRecDepth 100000 in
set_option maxHeartbeats 400000 in
theorem k_M_again_l42 {K73 : Int → zi_M → Prop} {Q : Int → zi_M → Prop} {g0 : zi_M} (hK73 : ∀ (k2 : Int) (g : zi_M), zk_I g → zk_fr fr_M_again g0 g → ((-2147483648) ≤ k2 ∧ k2 ≤ 2147483647) → K73 k2 g) (hQ : ∀ (v : Int) (g' : zi_M), zk_I g' → zk_fr fr_M_again g0 g' → ((-2147483648) ≤ v) → Q v g') : ∀ (n : Nat) {l2 : Int} {l3 : Int} {g : zi_M}, zk_I g → zk_fr fr_M_again g0 g → ((-2147483648) ≤ l2 ∧ l2 ≤ 2147483647) → (0 ≤ l3 ∧ l3 ≤ 16) → 16 - l3 < (n : Int) → w_M_again_l42 K73 Q n l2 l3 g
  | 0, l2, l3, g, I, F, b0, b1, hm => by exfalso; omega
  | n + 1, l2, l3, g, I, F, b0, b1, hm => by
    unfold w_M_again_l42
    refine ⟨⟨by omega, by omega⟩, ?_⟩
    refine ⟨fun c22 => ?_, fun c22 => ?_⟩
    · exact hK73 _ _ I F ⟨by omega, by omega⟩
    · refine k_M_comingFrom I ⟨by omega, by omega⟩ (fun v10 b_8 => ?_)
      refine k_M_common I ⟨by omega, by omega⟩ (by omega) (fun v13 => ?_)
      refine ⟨⟨by omega, by omega⟩, ⟨by omega, by omega⟩, (by omega), ?_⟩
      refine k_M_comingFrom I ⟨by omega, by omega⟩ (fun v19 b_9 => ?_)
      have m_10 := zi_tdiv_f l2 v13
      have m_11 := zi_r_w ((Int.tdiv l2 v13) * v19)
      exact k_M_again_l42 hK73 hQ n I F ⟨by omega, by omega⟩ ⟨by omega, by omega⟩ (by omega)
set_option maxRecDepth 100000 in
set_option maxHeartbeats 400000 in
theorem k_M_again {l1 : Int} {g : zi_M} {Q : Int → zi_M → Prop} (I : zk_I g) (p1 : (-2147483648) ≤ l1 ∧ l1 ≤ 2147483647) (hQ : ∀ (v : Int) (g' : zi_M), zk_I g' → zk_fr fr_M_again g g' → ((-2147483648) ≤ v) → Q v g') : w_M_again l1 g Q := by
  unfold w_M_again
  intro g1 e_1
  have I_2 : zk_I g1 := by rw [e_1]; exact zk_upd (L := (-2147483648)) (H := 2147483647) rfl rfl I ⟨by omega, by omega⟩
  have F_3 : zk_fr fr_M_again g g1 := by rw [e_1]; exact zk_fu (zk_f0 _) (by unfold fr_M_again; omega)
  refine k_M_isIn I_2 ⟨by omega, by omega⟩ ⟨by omega, by omega⟩ ⟨by omega, by omega⟩ (fun v2 b_4 b_5 b_6 => ?_)
  refine ⟨fun c31 => ?_, fun c31 => ?_⟩
  · refine ⟨⟨by omega, by omega⟩, ?_⟩
    refine ⟨fun c30 => ?_, fun c30 => ?_⟩
    · refine k_M_isOneToOne I_2 (fun v6 b_7 => ?_)
      refine ⟨fun c26 => ?_, fun c26 => ?_⟩
      · refine ⟨((16 - 0).toNat + 1), k_M_again_l42 (fun k23 g24 I_12 F_13 b_14 => ?_) hQ ((16 - 0).toNat + 1) I_2 F_3 ⟨by omega, by omega⟩ ⟨by omega, by omega⟩ (by omega)⟩
        exact hQ _ _ I_12 F_13 (by omega)
      · exact hQ _ _ I_2 F_3 (by omega)
    · refine k_M_comingFrom I_2 ⟨by omega, by omega⟩ (fun v27 b_15 => ?_)
      exact hQ _ _ I_2 F_3 (by omega)
  · exact hQ _ _ I_2 F_3 (by omega)
-- SpoutNews.isRow(I)Z
set_option maxRecDepth 100000 in
set_option maxHeartbeats 400000 in
theorem k_S_isRow_l6 {g : zi_M} (I : zk_I g) {K28 : zi_M → Prop} {K48 : Int → Int → zi_M → Prop} {Q : Int → zi_M → Prop} (hK28 : K28 g) (hK48 : ∀ (k1 : Int) (k2 : Int), (0 ≤ k1 ∧ k1 ≤ 15) → ((-2147483648) ≤ k2 ∧ k2 ≤ 2147483647) → K48 k1 k2 g) (hQ : ∀ v : Int, (0 ≤ v ∧ v ≤ 1) → Q v g) : ∀ (n : Nat) {l1 : Int} {l2 : Int} {l3 : Int}, (0 ≤ l1 ∧ l1 ≤ 15) → ((-2147483648) ≤ l2 ∧ l2 ≤ 2147483647) → (0 ≤ l3 ∧ l3 ≤ 4) → 4 - l3 < (n : Int) → w_S_isRow_l6 K28 K48 Q n l1 l2 l3 g
  | 0, l1, l2, l3, b0, b1, b2, hm => by exfalso; omega
  | n + 1, l1, l2, l3, b0, b1, b2, hm => by
    unfold w_S_isRow_l6
    refine ⟨⟨by omega, by omega⟩, ?_⟩
    refine ⟨fun c6 => ?_, fun c6 => ?_⟩
    · exact hK48 _ _ ⟨by omega, by omega⟩ ⟨by omega, by omega⟩
    · refine ⟨⟨by omega, by omega⟩, ?_⟩
      have m_1 := zi_tmod_f l2 10
      have m_2 := zi_tmod_c l2 10 (by decide)
      refine ⟨⟨by omega, by omega⟩, ?_⟩
      refine ⟨fun c5 => ?_, fun c5 => ?_⟩
      · exact hK28
      · refine ⟨fun c4 => ?_, fun c4 => ?_⟩
        · have m_3 := zi_shl_f (Int.tmod l2 10)
          have m_4 := zi_or_f l1 (zi_shl 1 (Int.tmod l2 10))
          have m_5 := zi_tdiv_f l2 10
          have m_6 := zi_tdiv_c l2 10 (by decide)
          exact k_S_isRow_l6 I hK28 hK48 hQ n ⟨by omega, by omega⟩ ⟨by omega, by omega⟩ ⟨by omega, by omega⟩ (by omega)
        · exact hK28
set_option maxRecDepth 100000 in
set_option maxHeartbeats 400000 in
theorem k_S_isRow {l0 : Int} {g : zi_M} {Q : Int → zi_M → Prop} (I : zk_I g) (p0 : (-2147483648) ≤ l0 ∧ l0 ≤ 2147483647) (hQ : ∀ v : Int, (0 ≤ v ∧ v ≤ 1) → Q v g) : w_S_isRow l0 g Q := by
  unfold w_S_isRow
  refine ⟨((4 - 0).toNat + 1), k_S_isRow_l6 I (?_) (fun k8 k9 b_7 b_8 => ?_) hQ ((4 - 0).toNat + 1) ⟨by omega, by omega⟩ ⟨by omega, by omega⟩ ⟨by omega, by omega⟩ (by omega)⟩
  · exact hQ _ ⟨by omega, by omega⟩
  · refine ⟨⟨by omega, by omega⟩, ?_⟩
    refine ⟨fun c14 => ?_, fun c14 => ?_⟩
    · exact hQ _ ⟨by omega, by omega⟩
    · refine ⟨⟨by omega, by omega⟩, ?_⟩
      refine ⟨fun c13 => ?_, fun c13 => ?_⟩
      · exact hQ _ ⟨by omega, by omega⟩
      · exact hQ _ ⟨by omega, by omega⟩
-- SpoutNews.mason(IZI)Z
def fr_S_mason (a : Nat) (i : Int) : Prop := a = 42 ∨ a = 43
set_option maxRecDepth 100000 in
set_option maxHeartbeats 400000 in
theorem k_S_mason {l1 : Int} {l2 : Int} {l3 : Int} {g : zi_M} {Q : Int → zi_M → Prop} (I : zk_I g) (p1 : (-2147483648) ≤ l1 ∧ l1 ≤ 2147483647) (p2 : 0 ≤ l2 ∧ l2 ≤ 1) (p3 : (-2147483648) ≤ l3 ∧ l3 ≤ 2147483647) (hQ : ∀ (v : Int) (g' : zi_M), zk_I g' → zk_fr fr_S_mason g g' → (0 ≤ v ∧ v ≤ 1) → Q v g') : w_S_mason l1 l2 l3 g Q := by
  unfold w_S_mason
  refine ⟨⟨by omega, by omega⟩, ?_⟩
  refine ⟨fun c31 => ?_, fun c31 => ?_⟩
  · exact hQ _ _ I (zk_f0 _) ⟨by omega, by omega⟩
  · refine ⟨fun c30 => ?_, fun c30 => ?_⟩
    · exact hQ _ _ I (zk_f0 _) ⟨by omega, by omega⟩
    · refine k_S_isRow I ⟨by omega, by omega⟩ (fun v2 b_1 => ?_)
      refine ⟨fun c29 => ?_, fun c29 => ?_⟩
      · refine ⟨⟨by omega, by omega⟩, ?_⟩
        refine ⟨fun c28 => ?_, fun c28 => ?_⟩
        · refine ⟨⟨by omega, by omega⟩, ?_⟩
          refine ⟨⟨by omega, by omega⟩, ?_⟩
          have m_5 := zi_tdiv_f l3 1000
          have m_6 := zi_tdiv_c l3 1000 (by decide)
          intro g8 e_2
          have I_3 : zk_I g8 := by rw [e_2]; exact zk_upd (L := 0) (H := 3) rfl rfl I ⟨by omega, by omega⟩
          have F_4 : zk_fr fr_S_mason g g8 := by rw [e_2]; exact zk_fu (zk_f0 _) (by unfold fr_S_mason; omega)
          have m_7 := zi_tdiv_f l3 100
          have m_8 := zi_tdiv_c l3 100 (by decide)
          refine ⟨⟨by omega, by omega⟩, ?_⟩
          refine ⟨⟨by omega, by omega⟩, ?_⟩
          have m_12 := zi_tmod_f (Int.tdiv l3 100) 10
          have m_13 := zi_tmod_c (Int.tdiv l3 100) 10 (by decide)
          intro g11 e_9
          have I_10 : zk_I g11 := by rw [e_9]; exact zk_upd (L := 0) (H := 3) rfl rfl I_3 ⟨by omega, by omega⟩
          have F_11 : zk_fr fr_S_mason g g11 := by rw [e_9]; exact zk_fu F_4 (by unfold fr_S_mason; omega)
          have m_14 := zi_tdiv_f l3 10
          have m_15 := zi_tdiv_c l3 10 (by decide)
          refine ⟨⟨by omega, by omega⟩, ?_⟩
          refine ⟨⟨by omega, by omega⟩, ?_⟩
          have m_19 := zi_tmod_f (Int.tdiv l3 10) 10
          have m_20 := zi_tmod_c (Int.tdiv l3 10) 10 (by decide)
          intro g14 e_16
          have I_17 : zk_I g14 := by rw [e_16]; exact zk_upd (L := 0) (H := 3) rfl rfl I_10 ⟨by omega, by omega⟩
          have F_18 : zk_fr fr_S_mason g g14 := by rw [e_16]; exact zk_fu F_11 (by unfold fr_S_mason; omega)
          refine ⟨⟨by omega, by omega⟩, ?_⟩
          have m_24 := zi_tmod_f l3 10
          have m_25 := zi_tmod_c l3 10 (by decide)
          intro g16 e_21
          have I_22 : zk_I g16 := by rw [e_21]; exact zk_upd (L := 0) (H := 3) rfl rfl I_17 ⟨by omega, by omega⟩
          have F_23 : zk_fr fr_S_mason g g16 := by rw [e_21]; exact zk_fu F_18 (by unfold fr_S_mason; omega)
          exact hQ _ _ I_22 F_23 ⟨by omega, by omega⟩
        · refine ⟨⟨by omega, by omega⟩, ?_⟩
          refine ⟨⟨by omega, by omega⟩, ?_⟩
          have m_29 := zi_tdiv_f l3 1000
          have m_30 := zi_tdiv_c l3 1000 (by decide)
          intro g19 e_26
          have I_27 : zk_I g19 := by rw [e_26]; exact zk_upd (L := 0) (H := 3) rfl rfl I ⟨by omega, by omega⟩
          have F_28 : zk_fr fr_S_mason g g19 := by rw [e_26]; exact zk_fu (zk_f0 _) (by unfold fr_S_mason; omega)
          have m_31 := zi_tdiv_f l3 100
          have m_32 := zi_tdiv_c l3 100 (by decide)
          refine ⟨⟨by omega, by omega⟩, ?_⟩
          refine ⟨⟨by omega, by omega⟩, ?_⟩
          have m_36 := zi_tmod_f (Int.tdiv l3 100) 10
          have m_37 := zi_tmod_c (Int.tdiv l3 100) 10 (by decide)
          intro g22 e_33
          have I_34 : zk_I g22 := by rw [e_33]; exact zk_upd (L := 0) (H := 3) rfl rfl I_27 ⟨by omega, by omega⟩
          have F_35 : zk_fr fr_S_mason g g22 := by rw [e_33]; exact zk_fu F_28 (by unfold fr_S_mason; omega)
          have m_38 := zi_tdiv_f l3 10
          have m_39 := zi_tdiv_c l3 10 (by decide)
          refine ⟨⟨by omega, by omega⟩, ?_⟩
          refine ⟨⟨by omega, by omega⟩, ?_⟩
          have m_43 := zi_tmod_f (Int.tdiv l3 10) 10
          have m_44 := zi_tmod_c (Int.tdiv l3 10) 10 (by decide)
          intro g25 e_40
          have I_41 : zk_I g25 := by rw [e_40]; exact zk_upd (L := 0) (H := 3) rfl rfl I_34 ⟨by omega, by omega⟩
          have F_42 : zk_fr fr_S_mason g g25 := by rw [e_40]; exact zk_fu F_35 (by unfold fr_S_mason; omega)
          refine ⟨⟨by omega, by omega⟩, ?_⟩
          have m_48 := zi_tmod_f l3 10
          have m_49 := zi_tmod_c l3 10 (by decide)
          intro g27 e_45
          have I_46 : zk_I g27 := by rw [e_45]; exact zk_upd (L := 0) (H := 3) rfl rfl I_41 ⟨by omega, by omega⟩
          have F_47 : zk_fr fr_S_mason g g27 := by rw [e_45]; exact zk_fu F_42 (by unfold fr_S_mason; omega)
          exact hQ _ _ I_46 F_47 ⟨by omega, by omega⟩
      · exact hQ _ _ I (zk_f0 _) ⟨by omega, by omega⟩
-- SpoutNewsModel.digitOf(II)I
set_option maxRecDepth 100000 in
set_option maxHeartbeats 400000 in
theorem k_M_digitOf_l5 {g : zi_M} (I : zk_I g) {l2 : Int} {K22 : Int → zi_M → Prop} {Q : Int → zi_M → Prop} (q2 : 0 ≤ l2 ∧ l2 ≤ 3) (hK22 : ∀ (k3 : Int), ((-2147483648) ≤ k3 ∧ k3 ≤ 2147483647) → K22 k3 g) (hQ : ∀ v : Int, ((-9) ≤ v ∧ v ≤ 9) → Q v g) : ∀ (n : Nat) {l3 : Int} {l4 : Int}, ((-2147483648) ≤ l3 ∧ l3 ≤ 2147483647) → (0 ≤ l4 ∧ l4 ≤ 3) → l4 - 0 < (n : Int) → w_M_digitOf_l5 l2 K22 Q n l3 l4 g
  | 0, l3, l4, b0, b1, hm => by exfalso; omega
  | n + 1, l3, l4, b0, b1, hm => by
    unfold w_M_digitOf_l5
    refine ⟨⟨by omega, by omega⟩, ⟨by omega, by omega⟩, ?_⟩
    refine ⟨fun c4 => ?_, fun c4 => ?_⟩
    · exact hK22 _ ⟨by omega, by omega⟩
    · refine ⟨⟨by omega, by omega⟩, ?_⟩
      have m_1 := zi_tdiv_f l3 10
      have m_2 := zi_tdiv_c l3 10 (by decide)
      exact k_M_digitOf_l5 I q2 hK22 hQ n ⟨by omega, by omega⟩ ⟨by omega, by omega⟩ (by omega)
set_option maxRecDepth 100000 in
set_option maxHeartbeats 400000 in
theorem k_M_digitOf {l1 : Int} {l2 : Int} {g : zi_M} {Q : Int → zi_M → Prop} (I : zk_I g) (p1 : (-2147483648) ≤ l1 ∧ l1 ≤ 2147483647) (p2 : 0 ≤ l2 ∧ l2 ≤ 3) (hQ : ∀ v : Int, ((-9) ≤ v ∧ v ≤ 9) → Q v g) : w_M_digitOf l1 l2 g Q := by
  unfold w_M_digitOf
  refine ⟨((3 - 0).toNat + 1), k_M_digitOf_l5 (l2 := l2) I ⟨by omega, by omega⟩ (fun k5 b_3 => ?_) hQ ((3 - 0).toNat + 1) ⟨by omega, by omega⟩ ⟨by omega, by omega⟩ (by omega)⟩
  refine ⟨⟨by omega, by omega⟩, ?_⟩
  have m_4 := zi_tmod_f k5 10
  have m_5 := zi_tmod_c k5 10 (by decide)
  exact hQ _ ⟨by omega, by omega⟩
-- SpoutNewsModel.isRow(I)Z
set_option maxRecDepth 100000 in
set_option maxHeartbeats 400000 in
theorem k_M_isRow_l4 {g : zi_M} (I : zk_I g) {l1 : Int} {K26 : Int → zi_M → Prop} {Q : Int → zi_M → Prop} (q1 : (-2147483648) ≤ l1 ∧ l1 ≤ 2147483647) (hK26 : ∀ (k2 : Int), ((-2147483648) ≤ k2 ∧ k2 ≤ 2147483647) → K26 k2 g) (hQ : ∀ v : Int, (0 ≤ v ∧ v ≤ 1) → Q v g) : ∀ (n : Nat) {l2 : Int} {l3 : Int}, ((-2147483648) ≤ l2 ∧ l2 ≤ 2147483647) → (0 ≤ l3 ∧ l3 ≤ 4) → 4 - l3 < (n : Int) → w_M_isRow_l4 l1 K26 Q n l2 l3 g
  | 0, l2, l3, b0, b1, hm => by exfalso; omega
  | n + 1, l2, l3, b0, b1, hm => by
    unfold w_M_isRow_l4
    refine ⟨⟨by omega, by omega⟩, ?_⟩
    refine ⟨fun c5 => ?_, fun c5 => ?_⟩
    · exact hK26 _ ⟨by omega, by omega⟩
    · refine k_M_digitOf I ⟨by omega, by omega⟩ ⟨by omega, by omega⟩ (fun v2 b_1 => ?_)
      have m_2 := zi_shl_f v2
      have m_3 := zi_or_f l2 (zi_shl 1 v2)
      exact k_M_isRow_l4 I q1 hK26 hQ n ⟨by omega, by omega⟩ ⟨by omega, by omega⟩ (by omega)
set_option maxRecDepth 100000 in
set_option maxHeartbeats 400000 in
theorem k_M_isRow {l1 : Int} {g : zi_M} {Q : Int → zi_M → Prop} (I : zk_I g) (p1 : (-2147483648) ≤ l1 ∧ l1 ≤ 2147483647) (hQ : ∀ v : Int, (0 ≤ v ∧ v ≤ 1) → Q v g) : w_M_isRow l1 g Q := by
  unfold w_M_isRow
  refine ⟨((4 - 0).toNat + 1), k_M_isRow_l4 (l1 := l1) I ⟨by omega, by omega⟩ (fun k6 b_4 => ?_) hQ ((4 - 0).toNat + 1) ⟨by omega, by omega⟩ ⟨by omega, by omega⟩ (by omega)⟩
  refine k_M_isIn I ⟨by omega, by omega⟩ ⟨by omega, by omega⟩ ⟨by omega, by omega⟩ (fun v8 b_5 b_6 b_7 => ?_)
  refine ⟨fun c13 => ?_, fun c13 => ?_⟩
  · exact hQ _ ⟨by omega, by omega⟩
  · refine ⟨⟨by omega, by omega⟩, ?_⟩
    refine ⟨fun c12 => ?_, fun c12 => ?_⟩
    · exact hQ _ ⟨by omega, by omega⟩
    · exact hQ _ ⟨by omega, by omega⟩
-- SpoutNewsModel.mason(IZI)Z
def fr_M_mason (a : Nat) (i : Int) : Prop := a = 244 ∨ (a = 214 ∧ i = 0)
set_option maxRecDepth 100000 in
set_option maxHeartbeats 400000 in
theorem k_M_mason_l40 {l1 : Int} {l2 : Int} {l3 : Int} {K83 : zi_M → Prop} {Q : Int → zi_M → Prop} {g0 : zi_M} (q1 : (-2147483648) ≤ l1 ∧ l1 ≤ 2147483647) (q2 : 0 ≤ l2 ∧ l2 ≤ 1) (q3 : (-2147483648) ≤ l3 ∧ l3 ≤ 2147483647) (hK83 : ∀ (g : zi_M), zk_I g → zk_fr fr_M_mason g0 g → K83 g) (hQ : ∀ (v : Int) (g' : zi_M), zk_I g' → zk_fr fr_M_mason g0 g' → (0 ≤ v ∧ v ≤ 1) → Q v g') : ∀ (n : Nat) {l4 : Int} {g : zi_M}, zk_I g → zk_fr fr_M_mason g0 g → (0 ≤ l4 ∧ l4 ≤ 4) → 4 - l4 < (n : Int) → w_M_mason_l40 l1 l2 l3 K83 Q n l4 g
  | 0, l4, g, I, F, b0, hm => by exfalso; omega
  | n + 1, l4, g, I, F, b0, hm => by
    unfold w_M_mason_l40
    refine ⟨⟨by omega, by omega⟩, ?_⟩
    refine ⟨fun c24 => ?_, fun c24 => ?_⟩
    · exact hK83 _ I F
    · refine ⟨⟨by omega, by omega⟩, ?_⟩
      refine ⟨fun c23 => ?_, fun c23 => ?_⟩
      · refine k_M_digitOf I ⟨by omega, by omega⟩ ⟨by omega, by omega⟩ (fun v13 b_11 => ?_)
        refine ⟨⟨by omega, by omega⟩, ?_⟩
        intro g17 e_12
        have I_13 : zk_I g17 := by rw [e_12]; exact zk_upd (zk_lm (i := (4 * l1) + l4) (by omega)).1 (zk_lm (i := (4 * l1) + l4) (by omega)).2 I ⟨by omega, by omega⟩
        have F_14 : zk_fr fr_M_mason g0 g17 := by rw [e_12]; exact zk_fu F (by unfold fr_M_mason; omega)
        exact k_M_mason_l40 q1 q2 q3 hK83 hQ n I_13 F_14 ⟨by omega, by omega⟩ (by omega)
      · refine k_M_digitOf I ⟨by omega, by omega⟩ ⟨by omega, by omega⟩ (fun v18 b_15 => ?_)
        refine ⟨⟨by omega, by omega⟩, ?_⟩
        intro g22 e_16
        have I_17 : zk_I g22 := by rw [e_16]; exact zk_upd (zk_lm (i := (4 * (4 + l1)) + l4) (by omega)).1 (zk_lm (i := (4 * (4 + l1)) + l4) (by omega)).2 I ⟨by omega, by omega⟩
        have F_18 : zk_fr fr_M_mason g0 g22 := by rw [e_16]; exact zk_fu F (by unfold fr_M_mason; omega)
        exact k_M_mason_l40 q1 q2 q3 hK83 hQ n I_17 F_18 ⟨by omega, by omega⟩ (by omega)
set_option maxRecDepth 100000 in
set_option maxHeartbeats 400000 in
theorem k_M_mason {l1 : Int} {l2 : Int} {l3 : Int} {g : zi_M} {Q : Int → zi_M → Prop} (I : zk_I g) (p1 : (-2147483648) ≤ l1 ∧ l1 ≤ 2147483647) (p2 : 0 ≤ l2 ∧ l2 ≤ 1) (p3 : (-2147483648) ≤ l3 ∧ l3 ≤ 2147483647) (hQ : ∀ (v : Int) (g' : zi_M), zk_I g' → zk_fr fr_M_mason g g' → (0 ≤ v ∧ v ≤ 1) → Q v g') : w_M_mason l1 l2 l3 g Q := by
  unfold w_M_mason
  intro g1 e_1
  have I_2 : zk_I g1 := by rw [e_1]; exact zk_upd (L := (-2147483648)) (H := 2147483647) rfl rfl I ⟨by omega, by omega⟩
  have F_3 : zk_fr fr_M_mason g g1 := by rw [e_1]; exact zk_fu (zk_f0 _) (by unfold fr_M_mason; omega)
  refine k_M_isIn I_2 ⟨by omega, by omega⟩ ⟨by omega, by omega⟩ ⟨by omega, by omega⟩ (fun v2 b_4 b_5 b_6 => ?_)
  refine ⟨fun c29 => ?_, fun c29 => ?_⟩
  · exact hQ _ _ I_2 F_3 ⟨by omega, by omega⟩
  · refine k_M_isIn I_2 ⟨by omega, by omega⟩ ⟨by omega, by omega⟩ ⟨by omega, by omega⟩ (fun v5 b_7 b_8 b_9 => ?_)
    refine ⟨fun c28 => ?_, fun c28 => ?_⟩
    · exact hQ _ _ I_2 F_3 ⟨by omega, by omega⟩
    · refine k_M_isRow I_2 ⟨by omega, by omega⟩ (fun v8 b_10 => ?_)
      refine ⟨fun c27 => ?_, fun c27 => ?_⟩
      · refine ⟨((4 - 0).toNat + 1), k_M_mason_l40 (l1 := l1) (l2 := l2) (l3 := l3) ⟨by omega, by omega⟩ ⟨by omega, by omega⟩ ⟨by omega, by omega⟩ (fun g25 I_19 F_20 => ?_) hQ ((4 - 0).toNat + 1) I_2 F_3 ⟨by omega, by omega⟩ (by omega)⟩
        exact hQ _ _ I_19 F_20 ⟨by omega, by omega⟩
      · exact hQ _ _ I_2 F_3 ⟨by omega, by omega⟩
-- SpoutNews$Thought.firstWithout()I
set_option maxRecDepth 100000 in
set_option maxHeartbeats 400000 in
theorem k_Thought_firstWithout_l2 {g : zi_M} (I : zk_I g) {K17 : Int → zi_M → Prop} {K25 : zi_M → Prop} {Q : Int → zi_M → Prop} (hK17 : ∀ (k1 : Int), (0 ≤ k1 ∧ k1 ≤ 3) → K17 k1 g) (hK25 : K25 g) (hQ : ∀ v : Int, ((-1) ≤ v ∧ v ≤ 3) → Q v g) : ∀ (n : Nat) {l1 : Int}, (0 ≤ l1 ∧ l1 ≤ 4) → 4 - l1 < (n : Int) → w_Thought_firstWithout_l2 K17 K25 Q n l1 g
  | 0, l1, b0, hm => by exfalso; omega
  | n + 1, l1, b0, hm => by
    unfold w_Thought_firstWithout_l2
    refine ⟨⟨by omega, by omega⟩, ?_⟩
    refine ⟨fun c5 => ?_, fun c5 => ?_⟩
    · exact hK25
    · refine ⟨⟨by omega, by omega⟩, ?_⟩
      have m_1 : (-1) ≤ (g 186 l1) ∧ (g 186 l1) ≤ 3 := I 186 l1
      refine ⟨⟨by omega, by omega⟩, ?_⟩
      refine ⟨fun c4 => ?_, fun c4 => ?_⟩
      · exact k_Thought_firstWithout_l2 I hK17 hK25 hQ n ⟨by omega, by omega⟩ (by omega)
      · exact hK17 _ ⟨by omega, by omega⟩
set_option maxRecDepth 100000 in
set_option maxHeartbeats 400000 in
theorem k_Thought_firstWithout {g : zi_M} {Q : Int → zi_M → Prop} (I : zk_I g) (hQ : ∀ v : Int, ((-1) ≤ v ∧ v ≤ 3) → Q v g) : w_Thought_firstWithout g Q := by
  unfold w_Thought_firstWithout
  refine ⟨((4 - 0).toNat + 1), k_Thought_firstWithout_l2 I (fun k6 b_2 => ?_) (?_) hQ ((4 - 0).toNat + 1) ⟨by omega, by omega⟩ (by omega)⟩
  · exact hQ _ ⟨by omega, by omega⟩
  · exact hQ _ ⟨by omega, by omega⟩
-- SpoutNews$Thought.dearness(LSpoutNews$Told;II)I
set_option maxRecDepth 100000 in
set_option maxHeartbeats 400000 in
theorem k_Thought_dearness_l2 {g : zi_M} (I : zk_I g) {l1 : Int} {l2 : Int} {K21 : Int → zi_M → Prop} {K29 : zi_M → Prop} {Q : Int → zi_M → Prop} (q1 : 0 ≤ l1 ∧ l1 ≤ 3) (q2 : 0 ≤ l2 ∧ l2 ≤ 3) (hK21 : ∀ (k3 : Int), (0 ≤ k3 ∧ k3 ≤ 3) → K21 k3 g) (hK29 : K29 g) (hQ : ∀ v : Int, (0 ≤ v ∧ v ≤ 4) → Q v g) : ∀ (n : Nat) {l3 : Int}, (0 ≤ l3 ∧ l3 ≤ 4) → 4 - l3 < (n : Int) → w_Thought_dearness_l2 l1 l2 K21 K29 Q n l3 g
  | 0, l3, b0, hm => by exfalso; omega
  | n + 1, l3, b0, hm => by
    unfold w_Thought_dearness_l2
    refine ⟨⟨by omega, by omega⟩, ?_⟩
    refine ⟨fun c6 => ?_, fun c6 => ?_⟩
    · exact hK29
    · refine ⟨⟨by omega, by omega⟩, ?_⟩
      have m_1 : 0 ≤ (g 43 ((l1 * 4) + l3)) ∧ (g 43 ((l1 * 4) + l3)) ≤ 3 := I 43 ((l1 * 4) + l3)
      refine ⟨⟨by omega, by omega⟩, ⟨by omega, by omega⟩, ?_⟩
      refine ⟨fun c5 => ?_, fun c5 => ?_⟩
      · exact k_Thought_dearness_l2 I q1 q2 hK21 hK29 hQ n ⟨by omega, by omega⟩ (by omega)
      · exact hK21 _ ⟨by omega, by omega⟩
set_option maxRecDepth 100000 in
set_option maxHeartbeats 400000 in
theorem k_Thought_dearness {l1 : Int} {l2 : Int} {g : zi_M} {Q : Int → zi_M → Prop} (I : zk_I g) (p1 : 0 ≤ l1 ∧ l1 ≤ 3) (p2 : 0 ≤ l2 ∧ l2 ≤ 3) (hQ : ∀ v : Int, (0 ≤ v ∧ v ≤ 4) → Q v g) : w_Thought_dearness l1 l2 g Q := by
  unfold w_Thought_dearness
  refine ⟨((4 - 0).toNat + 1), k_Thought_dearness_l2 (l1 := l1) (l2 := l2) I ⟨by omega, by omega⟩ ⟨by omega, by omega⟩ (fun k7 b_2 => ?_) (?_) hQ ((4 - 0).toNat + 1) ⟨by omega, by omega⟩ (by omega)⟩
  · exact hQ _ ⟨by omega, by omega⟩
  · exact hQ _ ⟨by omega, by omega⟩
-- SpoutNews$Thought.offer(LSpoutNews$Told;II)V
def fr_Thought_offer (a : Nat) (i : Int) : Prop := a = 186 ∨ a = 187 ∨ a = 188
set_option maxRecDepth 100000 in
set_option maxHeartbeats 400000 in
theorem k_Thought_offer_b66 {l2 : Int} {l3 : Int} {Q : Int → zi_M → Prop} {g : zi_M} {g0 : zi_M} (I : zk_I g) (F : zk_fr fr_Thought_offer g0 g) (p2 : 0 ≤ l2 ∧ l2 ≤ 3) (p3 : 0 ≤ l3 ∧ l3 ≤ 3) (hQ : ∀ g' : zi_M, zk_I g' → zk_fr fr_Thought_offer g0 g' → Q 0 g') : w_Thought_offer_b66 l2 l3 g Q := by
  unfold w_Thought_offer_b66
  refine ⟨⟨by omega, by omega⟩, ?_⟩
  intro g5 e_2
  have I_3 : zk_I g5 := by rw [e_2]; exact zk_upd (L := (-1)) (H := 3) rfl rfl I ⟨by omega, by omega⟩
  have F_4 : zk_fr fr_Thought_offer g0 g5 := by rw [e_2]; exact zk_fu F (by unfold fr_Thought_offer; omega)
  refine ⟨⟨by omega, by omega⟩, ?_⟩
  intro g7 e_5
  have I_6 : zk_I g7 := by rw [e_5]; exact zk_upd (L := (-1)) (H := 3) rfl rfl I_3 ⟨by omega, by omega⟩
  have F_7 : zk_fr fr_Thought_offer g0 g7 := by rw [e_5]; exact zk_fu F_4 (by unfold fr_Thought_offer; omega)
  exact hQ _ I_6 F_7
set_option maxRecDepth 100000 in
set_option maxHeartbeats 400000 in
theorem k_Thought_offer_b41 {l2 : Int} {l3 : Int} {l4 : Int} {Q : Int → zi_M → Prop} {g : zi_M} {g0 : zi_M} (I : zk_I g) (F : zk_fr fr_Thought_offer g0 g) (p2 : 0 ≤ l2 ∧ l2 ≤ 3) (p3 : 0 ≤ l3 ∧ l3 ≤ 3) (p4 : (-1) ≤ l4 ∧ l4 ≤ 3) (hQ : ∀ g' : zi_M, zk_I g' → zk_fr fr_Thought_offer g0 g' → Q 0 g') : w_Thought_offer_b41 l2 l3 l4 g Q := by
  unfold w_Thought_offer_b41
  refine ⟨⟨by omega, by omega⟩, ?_⟩
  refine ⟨fun c11 => ?_, fun c11 => ?_⟩
  · exact k_Thought_offer_b66 I F ⟨by omega, by omega⟩ ⟨by omega, by omega⟩ hQ
  · refine ⟨⟨by omega, by omega⟩, ?_⟩
    intro g9 e_8
    have I_9 : zk_I g9 := by rw [e_8]; exact zk_upd (L := (-1)) (H := 3) rfl rfl I ⟨by omega, by omega⟩
    have F_10 : zk_fr fr_Thought_offer g0 g9 := by rw [e_8]; exact zk_fu F (by unfold fr_Thought_offer; omega)
    have m_14 : 0 ≤ (g9 188 l4) ∧ (g9 188 l4) ≤ 16 := I_9 188 l4
    have m_15 : g9 188 l4 = g 188 l4 := by rw [e_8]; exact zi_u_ne (by decide)
    have m_16 : 0 ≤ (g 188 l4) ∧ (g 188 l4) ≤ 16 := I 188 l4
    intro g10 e_11
    have I_12 : zk_I g10 := by rw [e_11]; exact zk_upd (L := 0) (H := 16) rfl rfl I_9 ⟨by omega, by omega⟩
    have F_13 : zk_fr fr_Thought_offer g0 g10 := by rw [e_11]; exact zk_fu F_10 (by unfold fr_Thought_offer; omega)
    exact k_Thought_offer_b66 I_12 F_13 ⟨by omega, by omega⟩ ⟨by omega, by omega⟩ hQ
set_option maxRecDepth 100000 in
set_option maxHeartbeats 400000 in
theorem k_Thought_offer {l2 : Int} {l3 : Int} {g : zi_M} {Q : Int → zi_M → Prop} (I : zk_I g) (p2 : 0 ≤ l2 ∧ l2 ≤ 3) (p3 : 0 ≤ l3 ∧ l3 ≤ 3) (hQ : ∀ g' : zi_M, zk_I g' → zk_fr fr_Thought_offer g g' → Q 0 g') : w_Thought_offer l2 l3 g Q := by
  unfold w_Thought_offer
  refine ⟨⟨by omega, by omega⟩, ?_⟩
  have m_1 : (-1) ≤ (g 187 l3) ∧ (g 187 l3) ≤ 3 := I 187 l3
  refine ⟨⟨by omega, by omega⟩, ?_⟩
  refine ⟨fun c23 => ?_, fun c23 => ?_⟩
  · exact k_Thought_offer_b41 I (zk_f0 _) ⟨by omega, by omega⟩ ⟨by omega, by omega⟩ ⟨by omega, by omega⟩ hQ
  · refine k_Thought_dearness I ⟨by omega, by omega⟩ ⟨by omega, by omega⟩ (fun v12 b_17 => ?_)
    refine k_Thought_dearness I ⟨by omega, by omega⟩ ⟨by omega, by omega⟩ (fun v15 b_18 => ?_)
    refine ⟨⟨by omega, by omega⟩, ⟨by omega, by omega⟩, ?_⟩
    refine ⟨fun c22 => ?_, fun c22 => ?_⟩
    · exact k_Thought_offer_b41 I (zk_f0 _) ⟨by omega, by omega⟩ ⟨by omega, by omega⟩ ⟨by omega, by omega⟩ hQ
    · refine ⟨⟨by omega, by omega⟩, ?_⟩
      have m_22 : 0 ≤ (g 188 l2) ∧ (g 188 l2) ≤ 16 := I 188 l2
      intro g21 e_19
      have I_20 : zk_I g21 := by rw [e_19]; exact zk_upd (L := 0) (H := 16) rfl rfl I ⟨by omega, by omega⟩
      have F_21 : zk_fr fr_Thought_offer g g21 := by rw [e_19]; exact zk_fu (zk_f0 _) (by unfold fr_Thought_offer; omega)
      exact hQ _ I_20 F_21
-- SpoutNews$Thought.makeOffers(LSpoutNews$Told;)V
def fr_Thought_makeOffers (a : Nat) (i : Int) : Prop := a = 186 ∨ a = 187 ∨ a = 188 ∨ (a = 180 ∧ i = 11)
set_option maxRecDepth 100000 in
set_option maxHeartbeats 400000 in
theorem k_Thought_makeOffers_l31 {K57 : zi_M → Prop} {K97 : zi_M → Prop} {Q : Int → zi_M → Prop} {g0 : zi_M} (hK57 : ∀ (g : zi_M), zk_I g → zk_fr fr_Thought_makeOffers g0 g → K57 g) (hK97 : ∀ (g : zi_M), zk_I g → zk_fr fr_Thought_makeOffers g0 g → K97 g) (hQ : ∀ g' : zi_M, zk_I g' → zk_fr fr_Thought_makeOffers g0 g' → Q 0 g') : ∀ (n : Nat) {l2 : Int} {g : zi_M}, zk_I g → zk_fr fr_Thought_makeOffers g0 g → (0 ≤ l2 ∧ l2 ≤ 16) → 16 - l2 < (n : Int) → w_Thought_makeOffers_l31 K57 K97 Q n l2 g
  | 0, l2, g, I, F, b0, hm => by exfalso; omega
  | n + 1, l2, g, I, F, b0, hm => by
    unfold w_Thought_makeOffers_l31
    refine ⟨⟨by omega, by omega⟩, ?_⟩
    refine ⟨fun c19 => ?_, fun c19 => ?_⟩
    · exact hK97 _ I F
    · refine k_Thought_firstWithout I (fun v6 b_13 => ?_)
      refine ⟨⟨by omega, by omega⟩, ?_⟩
      refine ⟨fun c18 => ?_, fun c18 => ?_⟩
      · exact hK97 _ I F
      · refine ⟨⟨by omega, by omega⟩, ?_⟩
        have m_14 : 0 ≤ (g 188 v6) ∧ (g 188 v6) ≤ 16 := I 188 v6
        refine ⟨⟨by omega, by omega⟩, ?_⟩
        refine ⟨fun c17 => ?_, fun c17 => ?_⟩
        · have m_18 : 0 ≤ (g 180 11) ∧ (g 180 11) ≤ 16 := I 180 11
          intro g12 e_15
          have I_16 : zk_I g12 := by rw [e_15]; exact zk_upd (L := 0) (H := 16) rfl rfl I ⟨by omega, by omega⟩
          have F_17 : zk_fr fr_Thought_makeOffers g0 g12 := by rw [e_15]; exact zk_fu F (by unfold fr_Thought_makeOffers; omega)
          have m_19 : 0 ≤ (g12 188 v6) ∧ (g12 188 v6) ≤ 16 := I_16 188 v6
          have m_20 : g12 188 v6 = g 188 v6 := by rw [e_15]; exact zi_u_ne (by decide)
          refine ⟨⟨by omega, by omega⟩, ?_⟩
          have m_21 : 0 ≤ (g12 42 ((v6 * 4) + (g12 188 v6))) ∧ (g12 42 ((v6 * 4) + (g12 188 v6))) ≤ 3 := I_16 42 ((v6 * 4) + (g12 188 v6))
          have m_22 : g12 42 ((v6 * 4) + (g12 188 v6)) = g 42 ((v6 * 4) + (g12 188 v6)) := by rw [e_15]; exact zi_u_ne (by decide)
          have m_23 : 0 ≤ (g 42 ((v6 * 4) + (g12 188 v6))) ∧ (g 42 ((v6 * 4) + (g12 188 v6))) ≤ 3 := I 42 ((v6 * 4) + (g12 188 v6))
          refine k_Thought_offer I_16 ⟨by omega, by omega⟩ ⟨by omega, by omega⟩ (fun g15 I_24 F_25 => ?_)
          have F_26 : zk_fr fr_Thought_makeOffers g0 g15 := zk_ft F_17 F_25 (by intro a i h; unfold fr_Thought_offer at h; unfold fr_Thought_makeOffers; omega)
          exact k_Thought_makeOffers_l31 hK57 hK97 hQ n I_24 F_26 ⟨by omega, by omega⟩ (by omega)
        · exact hK57 _ I F
set_option maxRecDepth 100000 in
set_option maxHeartbeats 400000 in
theorem k_Thought_makeOffers {g : zi_M} {Q : Int → zi_M → Prop} (I : zk_I g) (hQ : ∀ g' : zi_M, zk_I g' → zk_fr fr_Thought_makeOffers g g' → Q 0 g') : w_Thought_makeOffers g Q := by
  unfold w_Thought_makeOffers
  intro g1 e_1
  have I_2 : zk_I g1 := by rw [e_1]; exact zk_fill (L := (-1)) (H := 3) (fun _ => rfl) (fun _ => rfl) I ⟨by omega, by omega⟩
  have F_3 : zk_fr fr_Thought_makeOffers g g1 := by rw [e_1]; exact zk_ff (zk_f0 _) (fun i => by unfold fr_Thought_makeOffers; omega)
  intro g2 e_4
  have I_5 : zk_I g2 := by rw [e_4]; exact zk_fill (L := (-1)) (H := 3) (fun _ => rfl) (fun _ => rfl) I_2 ⟨by omega, by omega⟩
  have F_6 : zk_fr fr_Thought_makeOffers g g2 := by rw [e_4]; exact zk_ff F_3 (fun i => by unfold fr_Thought_makeOffers; omega)
  intro g3 e_7
  have I_8 : zk_I g3 := by rw [e_7]; exact zk_fill (L := 0) (H := 16) (fun _ => rfl) (fun _ => rfl) I_5 ⟨by omega, by omega⟩
  have F_9 : zk_fr fr_Thought_makeOffers g g3 := by rw [e_7]; exact zk_ff F_6 (fun i => by unfold fr_Thought_makeOffers; omega)
  intro g4 e_10
  have I_11 : zk_I g4 := by rw [e_10]; exact zk_upd (L := 0) (H := 16) rfl rfl I_8 ⟨by omega, by omega⟩
  have F_12 : zk_fr fr_Thought_makeOffers g g4 := by rw [e_10]; exact zk_fu F_9 (by unfold fr_Thought_makeOffers; omega)
  refine ⟨((16 - 0).toNat + 1), k_Thought_makeOffers_l31 (fun g20 I_27 F_28 => ?_) (fun g21 I_29 F_30 => ?_) hQ ((16 - 0).toNat + 1) I_11 F_12 ⟨by omega, by omega⟩ (by omega)⟩
  · exact hQ _ I_27 F_28
  · exact hQ _ I_29 F_30
