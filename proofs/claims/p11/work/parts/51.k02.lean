-- by program (wip/gen/mkz.py)
-- SpoutNews$Texts.rainOn(I)I
set_option maxRecDepth 100000 in
set_option maxHeartbeats 4000000 in
theorem k_Texts_rainOn_l2 {g : zi_M} (I : zk_I g) {l1 : Int} {K20 : Int → zi_M → Prop} {K33 : zi_M → Prop} {Q : Int → zi_M → Prop} (q1 : (-2147483648) ≤ l1 ∧ l1 ≤ 2147483647) (hK20 : ∀ (k2 : Int), (0 ≤ k2 ∧ k2 ≤ 15) → (k2 < g 19 5) → (g 30 k2 = l1) → (∀ k : Int, 0 ≤ k → k < k2 → ¬ g 30 k = l1) → K20 k2 g) (hK33 : (∀ k : Int, 0 ≤ k → k < g 19 5 → ¬ g 30 k = l1) → K33 g) (hQ : ∀ v : Int, ((-1) ≤ v ∧ v ≤ 9) → (zWo (g 30) (g 31) (g 19 5) l1 v) → Q v g) : ∀ (n : Nat) {l2 : Int}, (0 ≤ l2 ∧ l2 ≤ 16) → (∀ k : Int, 0 ≤ k → k < l2 → ¬ g 30 k = l1) → 16 - l2 < (n : Int) → w_Texts_rainOn_l2 l1 K20 K33 Q n l2 g
  | 0, l2, b0, b1, hm => by exfalso; omega
  | n + 1, l2, b0, b1, hm => by
    unfold w_Texts_rainOn_l2
    have m_1 : 0 ≤ (g 19 5) ∧ (g 19 5) ≤ 16 := I.1 19 5
    refine ⟨⟨by omega, by omega⟩, ⟨by omega, by omega⟩, ?_⟩
    refine ⟨fun c7 => ?_, fun c7 => ?_⟩
    · exact hK33 (by exact fun k h0 h1 => b1 k h0 (by omega))
    · refine ⟨⟨by omega, by omega⟩, ?_⟩
      have m_2 : (-2147483648) ≤ (g 30 l2) ∧ (g 30 l2) ≤ 2147483647 := I.1 30 l2
      refine ⟨⟨by omega, by omega⟩, ⟨by omega, by omega⟩, ?_⟩
      refine ⟨fun c6 => ?_, fun c6 => ?_⟩
      · exact k_Texts_rainOn_l2 I q1 hK20 hK33 hQ n ⟨by omega, by omega⟩ (by first | (intro k h0 h1; exfalso; omega) | exact zal_n b1 (by omega)) (by omega)
      · exact hK20 _ ⟨by omega, by omega⟩ (by omega) (by omega) (by assumption)
set_option maxRecDepth 100000 in
set_option maxHeartbeats 4000000 in
theorem k_Texts_rainOn {l1 : Int} {g : zi_M} {Q : Int → zi_M → Prop} (I : zk_I g) (p1 : (-2147483648) ≤ l1 ∧ l1 ≤ 2147483647) (hQ : ∀ v : Int, ((-1) ≤ v ∧ v ≤ 9) → (zWo (g 30) (g 31) (g 19 5) l1 v) → Q v g) : w_Texts_rainOn l1 g Q := by
  unfold w_Texts_rainOn
  refine ⟨((16 - 0 : Int).toNat + 1), k_Texts_rainOn_l2 (l1 := l1) I ⟨by omega, by omega⟩ (fun k8 b_3 b_4 b_5 b_6 => ?_) (fun b_8 => ?_) hQ ((16 - 0 : Int).toNat + 1) ⟨by omega, by omega⟩ (by first | (intro k h0 h1; exfalso; omega) | exact zal_n b1 (by omega)) (by omega)⟩
  · refine ⟨⟨by omega, by omega⟩, ?_⟩
    have m_7 : 0 ≤ (g 31 k8) ∧ (g 31 k8) ≤ 9 := I.1 31 k8
    exact hQ _ ⟨by omega, by omega⟩ (by first | exact zWo_a (by omega) (by omega) (by assumption) (by assumption) | exact zWo_b (by assumption) | assumption)
  · exact hQ _ ⟨by omega, by omega⟩ (by first | exact zWo_a (by omega) (by omega) (by assumption) (by assumption) | exact zWo_b (by assumption) | assumption)
-- SpoutNews$World.speaks(I)Z
set_option maxRecDepth 100000 in
set_option maxHeartbeats 4000000 in
theorem k_World_speaks {r0 : Nat} (hr0 : zs_sh r0 = some (10, 20)) {l1 : Int} {g : zi_M} {Q : Int → zi_M → Prop} (I : zk_I g) (p1 : 0 ≤ l1 ∧ l1 ≤ 9) (hQ : ∀ v : Int, ((g (r0 + 4) l1) = 0 → v = 1) → (¬ (g (r0 + 4) l1) = 0 → ¬ (g (r0 + 4) l1) = 1 → v = 0) → (¬ (g (r0 + 4) l1) = 0 → (g (r0 + 4) l1) = 1 → (g r0 14) < 5 → v = 0) → (¬ (g (r0 + 4) l1) = 0 → (g (r0 + 4) l1) = 1 → 5 ≤ (g r0 14) → v = 1) → Q v g) : w_World_speaks r0 l1 g Q := by
  unfold w_World_speaks
  refine ⟨⟨by omega, by omega⟩, ?_⟩
  have m_1 := zk_a10_4 hr0 I l1
  refine ⟨⟨by omega, by omega⟩, ?_⟩
  refine ⟨fun c6 => ?_, fun c6 => ?_⟩
  · have m_2 := zk_c10_14 hr0 I
    exact hQ _ (by intros; omega) (by intros; omega) (by intros; omega) (by intros; omega)
  · refine ⟨fun c5 => ?_, fun c5 => ?_⟩
    · have m_3 := zk_c10_14 hr0 I
      exact hQ _ (by intros; omega) (by intros; omega) (by intros; omega) (by intros; omega)
    · have m_4 := zk_c10_14 hr0 I
      refine ⟨⟨by omega, by omega⟩, ?_⟩
      refine ⟨fun c4 => ?_, fun c4 => ?_⟩
      · exact hQ _ (by intros; omega) (by intros; omega) (by intros; omega) (by intros; omega)
      · exact hQ _ (by intros; omega) (by intros; omega) (by intros; omega) (by intros; omega)
-- SpoutNews$Law.gatherFacts(LSpoutNews$World;II)V
set_option maxRecDepth 100000 in
set_option maxHeartbeats 4000000 in
theorem k_Law_gatherFacts {r1 : Nat} (hr1 : zs_sh r1 = some (10, 20)) {l2 : Int} {l3 : Int} {g : zi_M} {Q : Int → zi_M → Prop} (I : zk_I g) (p2 : 0 ≤ l2 ∧ l2 ≤ 9) (p3 : 0 ≤ l3 ∧ l3 ≤ 15) (hQ : ∀ g' : zi_M, zk_I g' → zk_fr (fr_Law_gatherFacts r1) g g' → Q 0 g') : w_Law_gatherFacts r1 l2 l3 g Q := by
  unfold w_Law_gatherFacts
  refine ⟨⟨by omega, by omega⟩, ?_⟩
  have m_4 := zk_a10_1 hr1 I l2
  intro g2 e_1
  have I_2 : zk_I g2 := by rw [e_1]; exact zk_upd (L := (-2147483648)) (H := 2147483647) rfl rfl I ⟨by omega, by omega⟩
  have F_3 : zk_fr (fr_Law_gatherFacts r1) g g2 := by rw [e_1]; exact zk_fu (zk_f0 _) rfl
  have m_8 := zk_a10_2 hr1 I_2 l2
  intro g3 e_5
  have I_6 : zk_I g3 := by rw [e_5]; exact zk_upd (L := (-2147483648)) (H := 2147483647) rfl rfl I_2 ⟨by omega, by omega⟩
  have F_7 : zk_fr (fr_Law_gatherFacts r1) g g3 := by rw [e_5]; exact zk_fu F_3 rfl
  have m_12 := zk_a10_3 hr1 I_6 l2
  intro g4 e_9
  have I_10 : zk_I g4 := by rw [e_9]; exact zk_upd (L := (-2147483648)) (H := 2147483647) rfl rfl I_6 ⟨by omega, by omega⟩
  have F_11 : zk_fr (fr_Law_gatherFacts r1) g g4 := by rw [e_9]; exact zk_fu F_7 rfl
  have m_16 := zk_a10_4 hr1 I_10 l2
  intro g5 e_13
  have I_14 : zk_I g5 := by rw [e_13]; exact zk_upd (L := (-2147483648)) (H := 2147483647) rfl rfl I_10 ⟨by omega, by omega⟩
  have F_15 : zk_fr (fr_Law_gatherFacts r1) g g5 := by rw [e_13]; exact zk_fu F_11 rfl
  have m_20 := zk_c10_14 hr1 I_14
  intro g6 e_17
  have I_18 : zk_I g6 := by rw [e_17]; exact zk_upd (L := (-2147483648)) (H := 2147483647) rfl rfl I_14 ⟨by omega, by omega⟩
  have F_19 : zk_fr (fr_Law_gatherFacts r1) g g6 := by rw [e_17]; exact zk_fu F_15 rfl
  have m_24 := zk_a10_6 hr1 I_18 l2
  intro g7 e_21
  have I_22 : zk_I g7 := by rw [e_21]; exact zk_upd (L := (-2147483648)) (H := 2147483647) rfl rfl I_18 ⟨by omega, by omega⟩
  have F_23 : zk_fr (fr_Law_gatherFacts r1) g g7 := by rw [e_21]; exact zk_fu F_19 rfl
  have m_28 := zk_a10_5 hr1 I_22 l2
  intro g8 e_25
  have I_26 : zk_I g8 := by rw [e_25]; exact zk_upd (L := (-2147483648)) (H := 2147483647) rfl rfl I_22 ⟨by omega, by omega⟩
  have F_27 : zk_fr (fr_Law_gatherFacts r1) g g8 := by rw [e_25]; exact zk_fu F_23 rfl
  intro g9 e_29
  have I_30 : zk_I g9 := by rw [e_29]; exact zk_upd (L := (-2147483648)) (H := 2147483647) rfl rfl I_26 ⟨by omega, by omega⟩
  have F_31 : zk_fr (fr_Law_gatherFacts r1) g g9 := by rw [e_29]; exact zk_fu F_27 rfl
  have m_35 := zk_c10_17 hr1 I_30
  intro g10 e_32
  have I_33 : zk_I g10 := by rw [e_32]; exact zk_upd (L := (-2147483648)) (H := 2147483647) rfl rfl I_30 ⟨by omega, by omega⟩
  have F_34 : zk_fr (fr_Law_gatherFacts r1) g g10 := by rw [e_32]; exact zk_fu F_31 rfl
  exact hQ _ I_33 F_34
-- SpoutNews$Law.joined(III)I
set_option maxRecDepth 100000 in
set_option maxHeartbeats 4000000 in
theorem k_Law_joined {l0 : Int} {l1 : Int} {l2 : Int} {g : zi_M} {Q : Int → zi_M → Prop} (I : zk_I g) (p0 : (-2147483648) ≤ l0 ∧ l0 ≤ 2147483647) (p1 : (-2147483648) ≤ l1 ∧ l1 ≤ 2147483647) (p2 : (-2147483648) ≤ l2 ∧ l2 ≤ 2147483647) (hQ : ∀ v : Int, ((-2147483648) ≤ v ∧ v ≤ 2147483647) → Q v g) : w_Law_joined l0 l1 l2 g Q := by
  unfold w_Law_joined
  refine ⟨⟨by omega, by omega⟩, ?_⟩
  refine ⟨fun c2 => ?_, fun c2 => ?_, fun c2 => ?_, fun c2 => ?_, fun c2 => ?_, fun c2 => ?_, fun c2 => ?_, fun c2 => ?_, fun c2 => ?_, fun c2 => ?_⟩
  · first | have m_1 := (zi_or_f l1 l2).2.1 ⟨by omega, by omega, by omega, by omega⟩ | have m_1 := (zi_or_f l1 l2).2.2.1 ⟨by omega, by omega, by omega, by omega⟩ | have m_1 := (zi_or_f l1 l2).2.2.2.1 ⟨by omega, by omega, by omega, by omega⟩ | have m_1 := (zi_or_f l1 l2).2.2.2.2.1 ⟨by omega, by omega, by omega, by omega⟩ | have m_1 := (zi_or_f l1 l2).2.2.2.2.2 ⟨by omega, by omega, by omega, by omega⟩ | have m_1 := zi_r_or l1 l2
    exact hQ _ ⟨by omega, by omega⟩
  · have m_2 := zi_r_w (l1 + l2)
    exact hQ _ ⟨by omega, by omega⟩
  · have m_3 := zi_r_w (l1 - l2)
    exact hQ _ ⟨by omega, by omega⟩
  · have m_4 := zi_r_w (l1 * l2)
    exact hQ _ ⟨by omega, by omega⟩
  · first | have m_5 := (zi_or_f l1 l2).2.1 ⟨by omega, by omega, by omega, by omega⟩ | have m_5 := (zi_or_f l1 l2).2.2.1 ⟨by omega, by omega, by omega, by omega⟩ | have m_5 := (zi_or_f l1 l2).2.2.2.1 ⟨by omega, by omega, by omega, by omega⟩ | have m_5 := (zi_or_f l1 l2).2.2.2.2.1 ⟨by omega, by omega, by omega, by omega⟩ | have m_5 := (zi_or_f l1 l2).2.2.2.2.2 ⟨by omega, by omega, by omega, by omega⟩ | have m_5 := zi_r_or l1 l2
    exact hQ _ ⟨by omega, by omega⟩
  · refine ⟨⟨by omega, by omega⟩, ⟨by omega, by omega⟩, ?_⟩
    refine ⟨fun c5 => ?_, fun c5 => ?_⟩
    · exact hQ _ ⟨by omega, by omega⟩
    · exact hQ _ ⟨by omega, by omega⟩
  · refine ⟨⟨by omega, by omega⟩, ⟨by omega, by omega⟩, ?_⟩
    refine ⟨fun c8 => ?_, fun c8 => ?_⟩
    · exact hQ _ ⟨by omega, by omega⟩
    · exact hQ _ ⟨by omega, by omega⟩
  · refine ⟨⟨by omega, by omega⟩, ⟨by omega, by omega⟩, ?_⟩
    refine ⟨fun c11 => ?_, fun c11 => ?_⟩
    · exact hQ _ ⟨by omega, by omega⟩
    · exact hQ _ ⟨by omega, by omega⟩
  · first | have m_6 := (zi_or_f l1 l2).2.1 ⟨by omega, by omega, by omega, by omega⟩ | have m_6 := (zi_or_f l1 l2).2.2.1 ⟨by omega, by omega, by omega, by omega⟩ | have m_6 := (zi_or_f l1 l2).2.2.2.1 ⟨by omega, by omega, by omega, by omega⟩ | have m_6 := (zi_or_f l1 l2).2.2.2.2.1 ⟨by omega, by omega, by omega, by omega⟩ | have m_6 := (zi_or_f l1 l2).2.2.2.2.2 ⟨by omega, by omega, by omega, by omega⟩ | have m_6 := zi_r_or l1 l2
    exact hQ _ ⟨by omega, by omega⟩
  · have m_7 := zi_r_and l1 l2
    try have m_8 := (zi_and_f l1 l2).2.1 ⟨by omega, by omega⟩
    try have m_9 := (zi_and_f l1 l2).2.2 ⟨by omega, by omega⟩
    exact hQ _ ⟨by omega, by omega⟩
-- SpoutNews$Law.worth(II)I
set_option maxRecDepth 100000 in
set_option maxHeartbeats 4000000 in
theorem k_Law_worth_l5 {l2 : Int} {K202 : Int → zi_M → Prop} {Q : Int → zi_M → Prop} {g0 : zi_M} (q2 : 0 ≤ l2 ∧ l2 ≤ 400) (hK202 : ∀ (k3 : Int) (g : zi_M), zk_I g → zk_fr fr_Law_worth g0 g → (0 ≤ k3 ∧ k3 ≤ 40) → K202 k3 g) (hQ : ∀ (v : Int) (g' : zi_M), zk_I g' → zk_fr fr_Law_worth g0 g' → ((-2147483648) ≤ v ∧ v ≤ 2147483647) → Q v g') : ∀ (n : Nat) {l3 : Int} {l4 : Int} {g : zi_M}, zk_I g → zk_fr fr_Law_worth g0 g → (0 ≤ l3 ∧ l3 ≤ 40) → (0 ≤ l4 ∧ l4 ≤ 400) → 400 - l4 < (n : Int) → w_Law_worth_l5 l2 K202 Q n l3 l4 g
  | 0, l3, l4, g, I, F, b0, b1, hm => by exfalso; omega
  | n + 1, l3, l4, g, I, F, b0, b1, hm => by
    unfold w_Law_worth_l5
    refine ⟨⟨by omega, by omega⟩, ⟨by omega, by omega⟩, ?_⟩
    refine ⟨fun c43 => ?_, fun c43 => ?_⟩
    · exact hK202 _ _ I F ⟨by omega, by omega⟩
    · refine ⟨⟨by omega, by omega⟩, ?_⟩
      have m_1 : (-2147483648) ≤ (g 21 l4) ∧ (g 21 l4) ≤ 2147483647 := I.1 21 l4
      refine ⟨⟨by omega, by omega⟩, ?_⟩
      refine ⟨fun c42 => ?_, fun c42 => ?_⟩
      · refine ⟨fun c26 => ?_, fun c26 => ?_⟩
        · refine ⟨fun c17 => ?_, fun c17 => ?_⟩
          · refine ⟨⟨by omega, by omega⟩, ?_⟩
            refine ⟨fun c12 => ?_, fun c12 => ?_⟩
            · exact k_Law_worth_l5 q2 hK202 hQ n I F ⟨by omega, by omega⟩ ⟨by omega, by omega⟩ (by omega)
            · refine ⟨⟨by omega, by omega⟩, ?_⟩
              refine ⟨⟨by omega, by omega⟩, ?_⟩
              have m_2 : (-2147483648) ≤ (g 27 ((l3 + (-1)) - 1)) ∧ (g 27 ((l3 + (-1)) - 1)) ≤ 2147483647 := I.1 27 ((l3 + (-1)) - 1)
              have m_3 : (-2147483648) ≤ (g 27 (l3 + (-1))) ∧ (g 27 (l3 + (-1))) ≤ 2147483647 := I.1 27 (l3 + (-1))
              refine k_Law_joined I ⟨by omega, by omega⟩ ⟨by omega, by omega⟩ ⟨by omega, by omega⟩ (fun v8 b_4 => ?_)
              intro g11 e_5
              have I_6 : zk_I g11 := by rw [e_5]; exact zk_upd (L := (-2147483648)) (H := 2147483647) rfl rfl I ⟨by omega, by omega⟩
              have F_7 : zk_fr fr_Law_worth g0 g11 := by rw [e_5]; exact zk_fu F rfl
              exact k_Law_worth_l5 q2 hK202 hQ n I_6 F_7 ⟨by omega, by omega⟩ ⟨by omega, by omega⟩ (by omega)
          · refine ⟨⟨by omega, by omega⟩, ?_⟩
            refine ⟨fun c16 => ?_, fun c16 => ?_⟩
            · exact k_Law_worth_l5 q2 hK202 hQ n I F ⟨by omega, by omega⟩ ⟨by omega, by omega⟩ (by omega)
            · refine ⟨⟨by omega, by omega⟩, ?_⟩
              have m_11 : (-2147483648) ≤ (g 27 (l3 - 1)) ∧ (g 27 (l3 - 1)) ≤ 2147483647 := I.1 27 (l3 - 1)
              have m_12 := zi_r_w (1 - (g 27 (l3 - 1)))
              intro g15 e_8
              have I_9 : zk_I g15 := by rw [e_8]; exact zk_upd (L := (-2147483648)) (H := 2147483647) rfl rfl I ⟨by omega, by omega⟩
              have F_10 : zk_fr fr_Law_worth g0 g15 := by rw [e_8]; exact zk_fu F rfl
              exact k_Law_worth_l5 q2 hK202 hQ n I_9 F_10 ⟨by omega, by omega⟩ ⟨by omega, by omega⟩ (by omega)
        · refine ⟨⟨by omega, by omega⟩, ?_⟩
          refine ⟨fun c25 => ?_, fun c25 => ?_⟩
          · exact k_Law_worth_l5 q2 hK202 hQ n I F ⟨by omega, by omega⟩ ⟨by omega, by omega⟩ (by omega)
          · have m_13 : 0 ≤ (g 22 l4) ∧ (g 22 l4) ≤ 9999 := I.1 22 l4
            refine ⟨⟨by omega, by omega⟩, ?_⟩
            refine ⟨fun c24 => ?_, fun c24 => ?_⟩
            · exact k_Law_worth_l5 q2 hK202 hQ n I F ⟨by omega, by omega⟩ ⟨by omega, by omega⟩ (by omega)
            · refine ⟨⟨by omega, by omega⟩, ?_⟩
              have m_14 : (-2147483648) ≤ (g 27 (l3 - 1)) ∧ (g 27 (l3 - 1)) ≤ 2147483647 := I.1 27 (l3 - 1)
              refine ⟨⟨by omega, by omega⟩, (by omega), ?_⟩
              have m_18 := zi_tdiv_f (g 27 (l3 - 1)) (g 22 l4)
              intro g23 e_15
              have I_16 : zk_I g23 := by rw [e_15]; exact zk_upd (L := (-2147483648)) (H := 2147483647) rfl rfl I ⟨by omega, by omega⟩
              have F_17 : zk_fr fr_Law_worth g0 g23 := by rw [e_15]; exact zk_fu F rfl
              exact k_Law_worth_l5 q2 hK202 hQ n I_16 F_17 ⟨by omega, by omega⟩ ⟨by omega, by omega⟩ (by omega)
      · refine ⟨⟨by omega, by omega⟩, ?_⟩
        refine ⟨fun c41 => ?_, fun c41 => ?_⟩
        · exact k_Law_worth_l5 q2 hK202 hQ n I F ⟨by omega, by omega⟩ ⟨by omega, by omega⟩ (by omega)
        · refine ⟨fun c40 => ?_, fun c40 => ?_⟩
          · refine ⟨⟨by omega, by omega⟩, ?_⟩
            have m_22 : 0 ≤ (g 22 l4) ∧ (g 22 l4) ≤ 9999 := I.1 22 l4
            intro g29 e_19
            have I_20 : zk_I g29 := by rw [e_19]; exact zk_upd (L := (-2147483648)) (H := 2147483647) rfl rfl I ⟨by omega, by omega⟩
            have F_21 : zk_fr fr_Law_worth g0 g29 := by rw [e_19]; exact zk_fu F rfl
            exact k_Law_worth_l5 q2 hK202 hQ n I_20 F_21 ⟨by omega, by omega⟩ ⟨by omega, by omega⟩ (by omega)
          · have m_23 : 0 ≤ (g 22 l4) ∧ (g 22 l4) ≤ 9999 := I.1 22 l4
            refine ⟨⟨by omega, by omega⟩, ?_⟩
            refine ⟨fun c39 => ?_, fun c39 => ?_⟩
            · refine ⟨⟨by omega, by omega⟩, ?_⟩
              intro g32 e_24
              have I_25 : zk_I g32 := by rw [e_24]; exact zk_upd (L := (-2147483648)) (H := 2147483647) rfl rfl I ⟨by omega, by omega⟩
              have F_26 : zk_fr fr_Law_worth g0 g32 := by rw [e_24]; exact zk_fu F rfl
              exact k_Law_worth_l5 q2 hK202 hQ n I_25 F_26 ⟨by omega, by omega⟩ ⟨by omega, by omega⟩ (by omega)
            · refine ⟨fun c38 => ?_, fun c38 => ?_⟩
              · refine ⟨⟨by omega, by omega⟩, ?_⟩
                refine ⟨⟨by omega, by omega⟩, ?_⟩
                have m_30 : (-2147483648) ≤ (g 28 (g 22 l4)) ∧ (g 28 (g 22 l4)) ≤ 2147483647 := I.1 28 (g 22 l4)
                intro g35 e_27
                have I_28 : zk_I g35 := by rw [e_27]; exact zk_upd (L := (-2147483648)) (H := 2147483647) rfl rfl I ⟨by omega, by omega⟩
                have F_29 : zk_fr fr_Law_worth g0 g35 := by rw [e_27]; exact zk_fu F rfl
                exact k_Law_worth_l5 q2 hK202 hQ n I_28 F_29 ⟨by omega, by omega⟩ ⟨by omega, by omega⟩ (by omega)
              · refine ⟨⟨by omega, by omega⟩, ?_⟩
                intro g37 e_31
                have I_32 : zk_I g37 := by rw [e_31]; exact zk_upd (L := (-2147483648)) (H := 2147483647) rfl rfl I ⟨by omega, by omega⟩
                have F_33 : zk_fr fr_Law_worth g0 g37 := by rw [e_31]; exact zk_fu F rfl
                exact k_Law_worth_l5 q2 hK202 hQ n I_32 F_33 ⟨by omega, by omega⟩ ⟨by omega, by omega⟩ (by omega)
set_option maxRecDepth 100000 in
set_option maxHeartbeats 4000000 in
theorem k_Law_worth {l1 : Int} {l2 : Int} {g : zi_M} {Q : Int → zi_M → Prop} (I : zk_I g) (p1 : 0 ≤ l1 ∧ l1 ≤ 400) (p2 : 0 ≤ l2 ∧ l2 ≤ 400) (hQ : ∀ (v : Int) (g' : zi_M), zk_I g' → zk_fr fr_Law_worth g g' → ((-2147483648) ≤ v ∧ v ≤ 2147483647) → Q v g') : w_Law_worth l1 l2 g Q := by
  unfold w_Law_worth
  refine ⟨((400 - l1 : Int).toNat + 1), k_Law_worth_l5 (l2 := l2) ⟨by omega, by omega⟩ (fun k44 g45 I_34 F_35 b_36 => ?_) hQ ((400 - l1 : Int).toNat + 1) I (zk_f0 _) ⟨by omega, by omega⟩ ⟨by omega, by omega⟩ (by omega)⟩
  refine ⟨⟨by omega, by omega⟩, ?_⟩
  refine ⟨fun c47 => ?_, fun c47 => ?_⟩
  · exact hQ _ _ I_34 F_35 ⟨by omega, by omega⟩
  · have m_37 : (-2147483648) ≤ (g45 27 0) ∧ (g45 27 0) ≤ 2147483647 := I_34.1 27 0
    exact hQ _ _ I_34 F_35 ⟨by omega, by omega⟩
-- SpoutNews$Law.tells(ILSpoutNews$World;II)I
set_option maxRecDepth 100000 in
set_option maxHeartbeats 4000000 in
theorem k_Law_tells_l55 {r2 : Nat} (hr2 : zs_sh r2 = some (10, 20)) {l1 : Int} {K113 : Int → zi_M → Prop} {K142 : zi_M → Prop} {Q : Int → zi_M → Prop} {g0 : zi_M} (q1 : 0 ≤ l1 ∧ l1 ≤ 2) (hK113 : ∀ (k7 : Int) (g : zi_M), zk_I g → zk_fr (fr_Law_tells r2) g0 g → (0 ≤ k7 ∧ k7 ≤ 15) → K113 k7 g) (hK142 : ∀ (g : zi_M), zk_I g → zk_fr (fr_Law_tells r2) g0 g → K142 g) (hQ : ∀ (v : Int) (g' : zi_M), zk_I g' → zk_fr (fr_Law_tells r2) g0 g' → (0 ≤ v ∧ v ≤ 1000) → Q v g') : ∀ (n : Nat) {l7 : Int} {g : zi_M}, zk_I g → zk_fr (fr_Law_tells r2) g0 g → (0 ≤ l7 ∧ l7 ≤ 16) → 16 - l7 < (n : Int) → w_Law_tells_l55 r2 l1 K113 K142 Q n l7 g
  | 0, l7, g, I, F, b0, hm => by exfalso; omega
  | n + 1, l7, g, I, F, b0, hm => by
    unfold w_Law_tells_l55
    have m_4 : 0 ≤ (g 20 7) ∧ (g 20 7) ≤ 16 := I.1 20 7
    refine ⟨⟨by omega, by omega⟩, ⟨by omega, by omega⟩, ?_⟩
    refine ⟨fun c20 => ?_, fun c20 => ?_⟩
    · exact hK142 _ I F
    · refine ⟨⟨by omega, by omega⟩, ?_⟩
      have m_5 : (-2147483648) ≤ (g 23 l7) ∧ (g 23 l7) ≤ 2147483647 := I.1 23 l7
      refine ⟨⟨by omega, by omega⟩, ⟨by omega, by omega⟩, ?_⟩
      refine ⟨fun c19 => ?_, fun c19 => ?_⟩
      · exact k_Law_tells_l55 hr2 q1 hK113 hK142 hQ n I F ⟨by omega, by omega⟩ (by omega)
      · have m_6 : 0 ≤ (g 25 l7) ∧ (g 25 l7) ≤ 400 := I.1 25 l7
        have m_7 : 0 ≤ (g 26 l7) ∧ (g 26 l7) ≤ 400 := I.1 26 l7
        refine ⟨⟨by omega, by omega⟩, ⟨by omega, by omega⟩, ?_⟩
        refine ⟨fun c18 => ?_, fun c18 => ?_⟩
        · exact hK113 _ _ I F ⟨by omega, by omega⟩
        · refine k_Law_worth I ⟨by omega, by omega⟩ ⟨by omega, by omega⟩ (fun v13 g14 I_9 F_10 b_8 => ?_)
          have F_11 : zk_fr (fr_Law_tells r2) g0 g14 := zk_ft F F_10 (fun a i => (fun h => (Or.inl h)))
          refine ⟨⟨by omega, by omega⟩, ?_⟩
          refine ⟨fun c17 => ?_, fun c17 => ?_⟩
          · exact k_Law_tells_l55 hr2 q1 hK113 hK142 hQ n I_9 F_11 ⟨by omega, by omega⟩ (by omega)
          · exact hK113 _ _ I_9 F_11 ⟨by omega, by omega⟩
set_option maxRecDepth 100000 in
set_option maxHeartbeats 4000000 in
theorem k_Law_tells_b113 {r2 : Nat} (hr2 : zs_sh r2 = some (10, 20)) {l5 : Int} {l7 : Int} {Q : Int → zi_M → Prop} {g : zi_M} {g0 : zi_M} (I : zk_I g) (F : zk_fr (fr_Law_tells r2) g0 g) (p5 : 9 ≤ l5 ∧ l5 ≤ 1000) (p7 : 0 ≤ l7 ∧ l7 ≤ 15) (hQ : ∀ (v : Int) (g' : zi_M), zk_I g' → zk_fr (fr_Law_tells r2) g0 g' → (0 ≤ v ∧ v ≤ 1000) → Q v g') : w_Law_tells_b113 r2 l5 l7 g Q := by
  unfold w_Law_tells_b113
  refine ⟨⟨by omega, by omega⟩, ?_⟩
  have m_15 : 0 ≤ (g 24 l7) ∧ (g 24 l7) ≤ 400 := I.1 24 l7
  have m_16 : 0 ≤ (g 25 l7) ∧ (g 25 l7) ≤ 400 := I.1 25 l7
  refine k_Law_worth I ⟨by omega, by omega⟩ ⟨by omega, by omega⟩ (fun v24 g25 I_18 F_19 b_17 => ?_)
  have F_20 : zk_fr (fr_Law_tells r2) g0 g25 := zk_ft F F_19 (fun a i => (fun h => (Or.inl h)))
  refine ⟨⟨by omega, by omega⟩, ⟨by omega, by omega⟩, ?_⟩
  refine ⟨⟨by omega, by omega⟩, ?_⟩
  exact hQ _ _ I_18 F_20 ⟨by omega, by omega⟩
set_option maxRecDepth 100000 in
set_option maxHeartbeats 4000000 in
theorem k_Law_tells_b13 {r2 : Nat} (hr2 : zs_sh r2 = some (10, 20)) {l1 : Int} {l3 : Int} {l4 : Int} {s0 : Int} {Q : Int → zi_M → Prop} {g : zi_M} {g0 : zi_M} (I : zk_I g) (F : zk_fr (fr_Law_tells r2) g0 g) (p1 : 0 ≤ l1 ∧ l1 ≤ 2) (p3 : 0 ≤ l3 ∧ l3 ≤ 9) (p4 : 0 ≤ l4 ∧ l4 ≤ 15) (ps0 : 9 ≤ s0 ∧ s0 ≤ 1000) (hQ : ∀ (v : Int) (g' : zi_M), zk_I g' → zk_fr (fr_Law_tells r2) g0 g' → (0 ≤ v ∧ v ≤ 1000) → Q v g') : w_Law_tells_b13 r2 l1 l3 l4 s0 g Q := by
  unfold w_Law_tells_b13
  refine ⟨⟨by omega, by omega⟩, ?_⟩
  refine ⟨fun c55 => ?_, fun c55 => ?_⟩
  · refine ⟨fun c45 => ?_, fun c45 => ?_⟩
    · refine k_Law_gatherFacts hr2 I ⟨by omega, by omega⟩ ⟨by omega, by omega⟩ (fun g4 I_1 F_2 => ?_)
      have F_3 : zk_fr (fr_Law_tells r2) g0 g4 := zk_ft F F_2 (fun a i => (fun h => (Or.inr h)))
      refine ⟨((16 - 0 : Int).toNat + 1), k_Law_tells_l55 (l1 := l1) hr2 ⟨by omega, by omega⟩ (fun k21 g22 I_12 F_13 b_14 => ?_) (fun g30 I_21 F_22 => ?_) hQ ((16 - 0 : Int).toNat + 1) I_1 F_3 ⟨by omega, by omega⟩ (by omega)⟩
      · exact k_Law_tells_b113 hr2 I_12 F_13 ⟨by omega, by omega⟩ ⟨by omega, by omega⟩ hQ
      · have m_23 := zk_c10_14 hr2 I
        refine ⟨⟨by omega, by omega⟩, ⟨by omega, by omega⟩, ?_⟩
        refine ⟨⟨by omega, by omega⟩, ?_⟩
        exact hQ _ _ I_21 F_22 ⟨by omega, by omega⟩
    · refine k_Law_gatherFacts hr2 I ⟨by omega, by omega⟩ ⟨by omega, by omega⟩ (fun g36 I_24 F_25 => ?_)
      have F_26 : zk_fr (fr_Law_tells r2) g0 g36 := zk_ft F F_25 (fun a i => (fun h => (Or.inr h)))
      refine ⟨((16 - 0 : Int).toNat + 1), k_Law_tells_l55 (l1 := l1) hr2 ⟨by omega, by omega⟩ (fun k38 g39 I_27 F_28 b_29 => ?_) (fun g40 I_30 F_31 => ?_) hQ ((16 - 0 : Int).toNat + 1) I_24 F_26 ⟨by omega, by omega⟩ (by omega)⟩
      · exact k_Law_tells_b113 hr2 I_27 F_28 ⟨by omega, by omega⟩ ⟨by omega, by omega⟩ hQ
      · have m_32 := zk_c10_14 hr2 I
        refine ⟨⟨by omega, by omega⟩, ⟨by omega, by omega⟩, ?_⟩
        refine ⟨⟨by omega, by omega⟩, ?_⟩
        exact hQ _ _ I_30 F_31 ⟨by omega, by omega⟩
  · refine k_Law_gatherFacts hr2 I ⟨by omega, by omega⟩ ⟨by omega, by omega⟩ (fun g47 I_33 F_34 => ?_)
    have F_35 : zk_fr (fr_Law_tells r2) g0 g47 := zk_ft F F_34 (fun a i => (fun h => (Or.inr h)))
    refine ⟨((16 - 0 : Int).toNat + 1), k_Law_tells_l55 (l1 := l1) hr2 ⟨by omega, by omega⟩ (fun k49 g50 I_36 F_37 b_38 => ?_) (fun g51 I_39 F_40 => ?_) hQ ((16 - 0 : Int).toNat + 1) I_33 F_35 ⟨by omega, by omega⟩ (by omega)⟩
    · exact k_Law_tells_b113 hr2 I_36 F_37 ⟨by omega, by omega⟩ ⟨by omega, by omega⟩ hQ
    · refine ⟨⟨by omega, by omega⟩, ?_⟩
      refine ⟨⟨by omega, by omega⟩, ?_⟩
      exact hQ _ _ I_39 F_40 ⟨by omega, by omega⟩
set_option maxRecDepth 100000 in
set_option maxHeartbeats 4000000 in
theorem k_Law_tells {r2 : Nat} (hr2 : zs_sh r2 = some (10, 20)) {l1 : Int} {l3 : Int} {l4 : Int} {g : zi_M} {Q : Int → zi_M → Prop} (I : zk_I g) (p1 : 0 ≤ l1 ∧ l1 ≤ 2) (p3 : 0 ≤ l3 ∧ l3 ≤ 9) (p4 : 0 ≤ l4 ∧ l4 ≤ 15) (hQ : ∀ (v : Int) (g' : zi_M), zk_I g' → zk_fr (fr_Law_tells r2) g g' → (0 ≤ v ∧ v ≤ 1000) → Q v g') : w_Law_tells r2 l1 l3 l4 g Q := by
  unfold w_Law_tells
  refine ⟨⟨by omega, by omega⟩, ?_⟩
  refine ⟨fun c56 => ?_, fun c56 => ?_⟩
  · exact k_Law_tells_b13 hr2 I (zk_f0 _) ⟨by omega, by omega⟩ ⟨by omega, by omega⟩ ⟨by omega, by omega⟩ ⟨by omega, by omega⟩ hQ
  · exact k_Law_tells_b13 hr2 I (zk_f0 _) ⟨by omega, by omega⟩ ⟨by omega, by omega⟩ ⟨by omega, by omega⟩ ⟨by omega, by omega⟩ hQ
-- SpoutNews$World.wordAt(II)I
set_option maxRecDepth 100000 in
set_option maxHeartbeats 4000000 in
theorem k_World_wordAt {r0 : Nat} (hr0 : zs_sh r0 = some (10, 20)) {l1 : Int} {l2 : Int} {g : zi_M} {Q : Int → zi_M → Prop} (I : zk_I g) (p1 : 0 ≤ l1 ∧ l1 ≤ 9) (p2 : 0 ≤ l2 ∧ l2 ≤ 19) (hQ : ∀ v : Int, (l1 < 0 → v = 0) → (0 ≤ l1 → (g r0 8) ≤ l1 → v = 0) → (0 ≤ l1 → l1 < (g r0 8) → l2 < 0 → v = 0) → (0 ≤ l1 → l1 < (g r0 8) → 0 ≤ l2 → 20 ≤ l2 → v = 0) → (0 ≤ l1 → l1 < (g r0 8) → 0 ≤ l2 → l2 < 20 → v = g (r0 + 7) ((l1 * 20) + l2)) → Q v g) : w_World_wordAt r0 l1 l2 g Q := by
  unfold w_World_wordAt
  have m_4 := zk_c10_8 hr0 I
  refine k_World_isSpout hr0 I ⟨by omega, by omega⟩ (fun v1 b_1 b_2 b_3 => ?_)
  try simp only [Nat.reduceAdd] at b_1 b_2 b_3
  refine ⟨fun c8 => ?_, fun c8 => ?_⟩
  · have m_5 := zk_a10_7 hr0 I ((l1 * 20) + l2)
    exact hQ _ (by intros; omega) (by intros; omega) (by intros; omega) (by intros; omega) (by intros; omega)
  · refine ⟨⟨by omega, by omega⟩, ?_⟩
    refine ⟨fun c7 => ?_, fun c7 => ?_⟩
    · have m_6 := zk_a10_7 hr0 I ((l1 * 20) + l2)
      exact hQ _ (by intros; omega) (by intros; omega) (by intros; omega) (by intros; omega) (by intros; omega)
    · refine ⟨fun c6 => ?_, fun c6 => ?_⟩
      · have m_7 := zk_a10_7 hr0 I ((l1 * 20) + l2)
        exact hQ _ (by intros; omega) (by intros; omega) (by intros; omega) (by intros; omega) (by intros; omega)
      · refine ⟨⟨by omega, by omega⟩, ?_⟩
        have m_8 := zk_a10_7 hr0 I ((l1 * 20) + l2)
        exact hQ _ (by intros; omega) (by intros; omega) (by intros; omega) (by intros; omega) (by intros; omega)
-- SpoutNews$World.slips(I)Z
set_option maxRecDepth 100000 in
set_option maxHeartbeats 4000000 in
theorem k_World_slips {r0 : Nat} (hr0 : zs_sh r0 = some (10, 20)) {l1 : Int} {g : zi_M} {Q : Int → zi_M → Prop} (I : zk_I g) (p1 : 0 ≤ l1 ∧ l1 ≤ 1000) (hQ : ∀ (v : Int) (g' : zi_M), zk_I g' → zk_fr (fr_World_slips r0) g g' → (0 ≤ v ∧ v ≤ 1) → Q v g') : w_World_slips r0 l1 g Q := by
  unfold w_World_slips
  have m_1 := zk_c10_0 hr0 I
  refine ⟨⟨by omega, by omega⟩, ?_⟩
  refine ⟨fun c8 => ?_, fun c8 => ?_⟩
  · have m_5 := zk_c10_18 hr0 I
    have m_6 := zi_r_w ((1664525 * (g r0 18)) + 1013904223)
    intro g2 e_2
    have I_3 : zk_I g2 := by rw [e_2]; exact zk_upd (zk_lc10_18 hr0).1 (zk_lc10_18 hr0).2 I ⟨by omega, by omega⟩ (zj_w10 hr0)
    have F_4 : zk_fr (fr_World_slips r0) g g2 := by rw [e_2]; exact zk_fu (zk_f0 _) ⟨rfl, rfl⟩
    have m_7 := zk_c10_18 hr0 I_3
    have m_8 : g2 r0 18 = zi_w ((1664525 * (g r0 18)) + 1013904223) := by rw [e_2]; exact zi_u_eq
    have m_9 := zi_ush_f (g2 r0 18) 8
    have m_10 := zi_tmod_f (zi_ush (g2 r0 18) 8) 1000
    have m_11 := zi_tmod_c (zi_ush (g2 r0 18) 8) 1000 (by decide)
    refine ⟨⟨by omega, by omega⟩, ⟨by omega, by omega⟩, ?_⟩
    refine ⟨fun c5 => ?_, fun c5 => ?_⟩
    · exact hQ _ _ I_3 F_4 ⟨by omega, by omega⟩
    · exact hQ _ _ I_3 F_4 ⟨by omega, by omega⟩
  · refine ⟨⟨by omega, by omega⟩, ?_⟩
    refine ⟨fun c7 => ?_, fun c7 => ?_⟩
    · exact hQ _ _ I (zk_f0 _) ⟨by omega, by omega⟩
    · exact hQ _ _ I (zk_f0 _) ⟨by omega, by omega⟩
-- SpoutNews$World.fillJarsAt(II)V
set_option maxRecDepth 100000 in
set_option maxHeartbeats 4000000 in
theorem k_World_fillJarsAt_l2 {r0 : Nat} (hr0 : zs_sh r0 = some (10, 20)) {l1 : Int} {l2 : Int} {K36 : zi_M → Prop} {Q : Int → zi_M → Prop} {g0 : zi_M} (q1 : 0 ≤ l1 ∧ l1 ≤ 9) (q2 : 0 ≤ l2 ∧ l2 ≤ 15) (hK36 : ∀ (g : zi_M), zk_I g → zk_fr (fr_World_fillJarsAt r0) g0 g → K36 g) (hQ : ∀ g' : zi_M, zk_I g' → zk_fr (fr_World_fillJarsAt r0) g0 g' → Q 0 g') : ∀ (n : Nat) {l3 : Int} {g : zi_M}, zk_I g → zk_fr (fr_World_fillJarsAt r0) g0 g → (0 ≤ l3 ∧ l3 ≤ 6) → 6 - l3 < (n : Int) → w_World_fillJarsAt_l2 r0 l1 l2 K36 Q n l3 g
  | 0, l3, g, I, F, b0, hm => by exfalso; omega
  | n + 1, l3, g, I, F, b0, hm => by
    unfold w_World_fillJarsAt_l2
    refine ⟨⟨by omega, by omega⟩, ?_⟩
    refine ⟨fun c7 => ?_, fun c7 => ?_⟩
    · exact hK36 _ I F
    · refine ⟨⟨by omega, by omega⟩, ?_⟩
      have m_1 := zk_a10_10 hr0 I l3
      refine ⟨⟨by omega, by omega⟩, ⟨by omega, by omega⟩, ?_⟩
      refine ⟨fun c6 => ?_, fun c6 => ?_⟩
      · exact k_World_fillJarsAt_l2 hr0 q1 q2 hK36 hQ n I F ⟨by omega, by omega⟩ (by omega)
      · have m_5 := zk_a10_11 hr0 I l3
        have m_6 := zi_r_shl 1 l2
        try have m_7 := (zi_shl_f l2).2.1 ⟨by omega, by omega⟩
        first | have m_8 := (zi_shl_f l2).2.2.1 ⟨by omega, by omega⟩ | have m_9 := (zi_shl_f l2).2.2.2.1 ⟨by omega, by omega⟩ | have m_10 := (zi_shl_f l2).2.2.2.2.1 ⟨by omega, by omega⟩ | have m_11 := (zi_shl_f l2).2.2.2.2.2.1 ⟨by omega, by omega⟩ | have m_12 := (zi_shl_f l2).2.2.2.2.2.2 ⟨by omega, by omega⟩ | skip
        first | have m_13 := (zi_or_f (g (r0 + 11) l3) (zi_shl 1 l2)).2.1 ⟨by omega, by omega, by omega, by omega⟩ | have m_13 := (zi_or_f (g (r0 + 11) l3) (zi_shl 1 l2)).2.2.1 ⟨by omega, by omega, by omega, by omega⟩ | have m_13 := (zi_or_f (g (r0 + 11) l3) (zi_shl 1 l2)).2.2.2.1 ⟨by omega, by omega, by omega, by omega⟩ | have m_13 := (zi_or_f (g (r0 + 11) l3) (zi_shl 1 l2)).2.2.2.2.1 ⟨by omega, by omega, by omega, by omega⟩ | have m_13 := (zi_or_f (g (r0 + 11) l3) (zi_shl 1 l2)).2.2.2.2.2 ⟨by omega, by omega, by omega, by omega⟩ | have m_13 := zi_r_or (g (r0 + 11) l3) (zi_shl 1 l2)
        intro g5 e_2
        have I_3 : zk_I g5 := by rw [e_2]; exact zk_upd (zk_la10_11 hr0).1 (zk_la10_11 hr0).2 I ⟨by omega, by omega⟩ (zj_a10_11 hr0)
        have F_4 : zk_fr (fr_World_fillJarsAt r0) g0 g5 := by rw [e_2]; exact zk_fu F rfl
        exact k_World_fillJarsAt_l2 hr0 q1 q2 hK36 hQ n I_3 F_4 ⟨by omega, by omega⟩ (by omega)
set_option maxRecDepth 100000 in
set_option maxHeartbeats 4000000 in
theorem k_World_fillJarsAt {r0 : Nat} (hr0 : zs_sh r0 = some (10, 20)) {l1 : Int} {l2 : Int} {g : zi_M} {Q : Int → zi_M → Prop} (I : zk_I g) (p1 : 0 ≤ l1 ∧ l1 ≤ 9) (p2 : 0 ≤ l2 ∧ l2 ≤ 15) (hQ : ∀ g' : zi_M, zk_I g' → zk_fr (fr_World_fillJarsAt r0) g g' → Q 0 g') : w_World_fillJarsAt r0 l1 l2 g Q := by
  unfold w_World_fillJarsAt
  refine ⟨((6 - 0 : Int).toNat + 1), k_World_fillJarsAt_l2 (l1 := l1) (l2 := l2) hr0 ⟨by omega, by omega⟩ ⟨by omega, by omega⟩ (fun g8 I_14 F_15 => ?_) hQ ((6 - 0 : Int).toNat + 1) I (zk_f0 _) ⟨by omega, by omega⟩ (by omega)⟩
  exact hQ _ I_14 F_15
-- SpoutNews$Book.write(LSpoutNews$World;III)V
set_option maxRecDepth 100000 in
set_option maxHeartbeats 4000000 in
theorem k_Book_write {r1 : Nat} (hr1 : zs_sh r1 = some (10, 20)) {l2 : Int} {l3 : Int} {l4 : Int} {g : zi_M} {Q : Int → zi_M → Prop} (I : zk_I g) (p2 : 0 ≤ l2 ∧ l2 ≤ 2) (p3 : 0 ≤ l3 ∧ l3 ≤ 9) (p4 : 0 ≤ l4 ∧ l4 ≤ 15) (hQ : ∀ g' : zi_M, zk_I g' → zk_fr (fr_Book_write r1) g g' → Q 0 g') : w_Book_write r1 l2 l3 l4 g Q := by
  unfold w_Book_write
  have m_1 := zk_c10_0 hr1 I
  refine ⟨⟨by omega, by omega⟩, ?_⟩
  refine ⟨fun c10 => ?_, fun c10 => ?_⟩
  · exact hQ _ I (zk_f0 _)
  · have m_2 := zk_c10_19 hr1 I
    refine ⟨⟨by omega, by omega⟩, ?_⟩
    refine ⟨fun c9 => ?_, fun c9 => ?_⟩
    · refine ⟨⟨by omega, by omega⟩, ?_⟩
      have m_6 := zk_c10_17 hr1 I
      intro g4 e_3
      have I_4 : zk_I g4 := by rw [e_3]; exact zk_upd (L := (-2147483648)) (H := 2147483647) rfl rfl I ⟨by omega, by omega⟩
      have F_5 : zk_fr (fr_Book_write r1) g g4 := by rw [e_3]; exact zk_fu (zk_f0 _) (Or.inl rfl)
      intro g5 e_7
      have I_8 : zk_I g5 := by rw [e_7]; exact zk_upd (L := (-2147483648)) (H := 2147483647) rfl rfl I_4 ⟨by omega, by omega⟩
      have F_9 : zk_fr (fr_Book_write r1) g g5 := by rw [e_7]; exact zk_fu F_5 (Or.inr (Or.inl rfl))
      intro g6 e_10
      have I_11 : zk_I g6 := by rw [e_10]; exact zk_upd (L := (-2147483648)) (H := 2147483647) rfl rfl I_8 ⟨by omega, by omega⟩
      have F_12 : zk_fr (fr_Book_write r1) g g6 := by rw [e_10]; exact zk_fu F_9 (Or.inr (Or.inr (Or.inl rfl)))
      intro g7 e_13
      have I_14 : zk_I g7 := by rw [e_13]; exact zk_upd (L := (-2147483648)) (H := 2147483647) rfl rfl I_11 ⟨by omega, by omega⟩
      have F_15 : zk_fr (fr_Book_write r1) g g7 := by rw [e_13]; exact zk_fu F_12 (Or.inr (Or.inr (Or.inr (Or.inl rfl))))
      intro g8 e_16
      have I_17 : zk_I g8 := by rw [e_16]; exact zk_upd (zk_lc10_19 hr1).1 (zk_lc10_19 hr1).2 I_14 ⟨by omega, by omega⟩ (zj_w10 hr1)
      have F_18 : zk_fr (fr_Book_write r1) g g8 := by rw [e_16]; exact zk_fu F_15 (Or.inr (Or.inr (Or.inr (Or.inr ⟨rfl, rfl⟩))))
      exact hQ _ I_17 F_18
    · exact hQ _ I (zk_f0 _)
-- SpoutNews$Texts.gutterOf(I)I
set_option maxRecDepth 100000 in
set_option maxHeartbeats 4000000 in
theorem k_Texts_gutterOf {l1 : Int} {g : zi_M} {Q : Int → zi_M → Prop} (I : zk_I g) (p1 : (-2147483648) ≤ l1 ∧ l1 ≤ 2147483647) (hQ : ∀ v : Int, (l1 < 0 → v = (-1)) → (0 ≤ l1 → 10 ≤ l1 → v = (-1)) → (0 ≤ l1 → l1 < 10 → v = g 29 l1) → Q v g) : w_Texts_gutterOf l1 g Q := by
  unfold w_Texts_gutterOf
  refine ⟨⟨by omega, by omega⟩, ?_⟩
  refine ⟨fun c4 => ?_, fun c4 => ?_⟩
  · have m_1 : (-1) ≤ (g 29 l1) ∧ (g 29 l1) ≤ 9 := I.1 29 l1
    exact hQ _ (by intros; omega) (by intros; omega) (by intros; omega)
  · refine ⟨fun c3 => ?_, fun c3 => ?_⟩
    · have m_2 : (-1) ≤ (g 29 l1) ∧ (g 29 l1) ≤ 9 := I.1 29 l1
      exact hQ _ (by intros; omega) (by intros; omega) (by intros; omega)
    · refine ⟨⟨by omega, by omega⟩, ?_⟩
      have m_3 : (-1) ≤ (g 29 l1) ∧ (g 29 l1) ≤ 9 := I.1 29 l1
      exact hQ _ (by intros; omega) (by intros; omega) (by intros; omega)
-- SpoutNews$World.dropFirst(I)V
set_option maxRecDepth 100000 in
set_option maxHeartbeats 4000000 in
theorem k_World_dropFirst {r0 : Nat} (hr0 : zs_sh r0 = some (10, 20)) {l1 : Int} {g : zi_M} {Q : Int → zi_M → Prop} (I : zk_I g) (p1 : 0 ≤ l1 ∧ l1 ≤ 9) (hQ : ∀ g' : zi_M, zk_I g' → zk_fr (fr_World_dropFirst r0) g g' → Q 0 g') : w_World_dropFirst r0 l1 g Q := by
  unfold w_World_dropFirst
  refine ⟨⟨by omega, by omega⟩, ?_⟩
  have m_1 := zk_a10_6 hr0 I l1
  refine ⟨⟨by omega, by omega⟩, ?_⟩
  refine ⟨fun c6 => ?_, fun c6 => ?_⟩
  · refine ⟨⟨⟨by omega, by omega, by omega⟩, by omega, by omega⟩, ?_⟩
    intro g4 e_2
    have I_3 : zk_I g4 := by rw [e_2]; exact zk_cp (L := 0) (H := 15) (fun i => zk_la10_7 hr0 (i := i)) (fun i => zk_la10_7 hr0 (i := i)) I (zj_a10_7 hr0)
    have F_4 : zk_fr (fr_World_dropFirst r0) g g4 := by rw [e_2]; exact zk_fc (zk_f0 _) (fun i => (Or.inr rfl))
    intro g5 e_5
    have I_6 : zk_I g5 := by rw [e_5]; exact zk_upd (zk_la10_6 hr0).1 (zk_la10_6 hr0).2 I_3 ⟨by omega, by omega⟩ (zj_a10_6 hr0)
    have F_7 : zk_fr (fr_World_dropFirst r0) g g5 := by rw [e_5]; exact zk_fu F_4 (Or.inl rfl)
    exact hQ _ I_6 F_7
  · exact hQ _ I (zk_f0 _)
-- SpoutNews$DayRun.sayFirst(LSpoutNews$World;LSpoutNews$Texts;LSpoutNews$Book;I)V
set_option maxRecDepth 100000 in
set_option maxHeartbeats 4000000 in
theorem k_DayRun_sayFirst_b48 {r1 : Nat} (hr1 : zs_sh r1 = some (10, 20)) {l4 : Int} {l5 : Int} {Q : Int → zi_M → Prop} {g : zi_M} {g0 : zi_M} (I : zk_I g) (F : zk_fr (fr_DayRun_sayFirst r1) g0 g) (p4 : 0 ≤ l4 ∧ l4 ≤ 9) (p5 : 0 ≤ l5 ∧ l5 ≤ 15) (hQ : ∀ g' : zi_M, zk_I g' → zk_fr (fr_DayRun_sayFirst r1) g0 g' → Q 0 g') : w_DayRun_sayFirst_b48 r1 l4 l5 g Q := by
  unfold w_DayRun_sayFirst_b48
  have m_19 := zk_c10_15 hr1 I
  have m_20 := zi_r_w ((g r1 15) + 1)
  intro g10 e_16
  have I_17 : zk_I g10 := by rw [e_16]; exact zk_upd (zk_lc10_15 hr1).1 (zk_lc10_15 hr1).2 I ⟨by omega, by omega⟩ (zj_w10 hr1)
  have F_18 : zk_fr (fr_DayRun_sayFirst r1) g0 g10 := by rw [e_16]; exact zk_fu F (Or.inr (Or.inr (Or.inr (Or.inr (Or.inr (Or.inr (Or.inr (Or.inr (Or.inr (Or.inr (Or.inr (Or.inl ⟨rfl, rfl⟩))))))))))))
  refine k_World_fillJarsAt hr1 I_17 ⟨by omega, by omega⟩ ⟨by omega, by omega⟩ (fun g12 I_21 F_22 => ?_)
  have F_23 : zk_fr (fr_DayRun_sayFirst r1) g0 g12 := zk_ft F_18 F_22 (fun a i => (fun h => (Or.inl h)))
  refine k_Book_write hr1 I_21 ⟨by omega, by omega⟩ ⟨by omega, by omega⟩ ⟨by omega, by omega⟩ (fun g15 I_24 F_25 => ?_)
  have F_26 : zk_fr (fr_DayRun_sayFirst r1) g0 g15 := zk_ft F_23 F_25 (fun a i => (fun h => Or.elim h (fun h => (Or.inr (Or.inr (Or.inr (Or.inl h))))) (fun h => Or.elim h (fun h => (Or.inr (Or.inr (Or.inr (Or.inr (Or.inl h)))))) (fun h => Or.elim h (fun h => (Or.inr (Or.inr (Or.inr (Or.inr (Or.inr (Or.inl h))))))) (fun h => Or.elim h (fun h => (Or.inr (Or.inr (Or.inr (Or.inr (Or.inr (Or.inr (Or.inr (Or.inr (Or.inl h)))))))))) (fun h => (Or.inr (Or.inr (Or.inr (Or.inr (Or.inr (Or.inr (Or.inr (Or.inr (Or.inr (Or.inr (Or.inr (Or.inr (Or.inr (Or.inr (Or.inl h)))))))))))))))))))))
  have m_30 : (-1) ≤ (g15 29 (l4)) ∧ (g15 29 (l4)) ≤ 9 := I_24.1 29 (l4)
  refine k_Texts_gutterOf I_24 ⟨by omega, by omega⟩ (fun v17 b_27 b_28 b_29 => ?_)
  refine ⟨⟨by omega, by omega⟩, ?_⟩
  refine ⟨fun c37 => ?_, fun c37 => ?_⟩
  · refine k_World_dropFirst hr1 I_24 ⟨by omega, by omega⟩ (fun g22 I_31 F_32 => ?_)
    have F_33 : zk_fr (fr_DayRun_sayFirst r1) g0 g22 := zk_ft F_26 F_32 (fun a i => (fun h => Or.elim h (fun h => (Or.inr (Or.inl h))) (fun h => (Or.inr (Or.inr (Or.inl h))))))
    exact hQ _ I_31 F_33
  · have m_34 : 0 ≤ (g15 177 2) ∧ (g15 177 2) ≤ 90 := I_24.1 177 2
    refine ⟨⟨by omega, by omega⟩, ?_⟩
    refine ⟨fun c36 => ?_, fun c36 => ?_⟩
    · refine k_World_dropFirst hr1 I_24 ⟨by omega, by omega⟩ (fun g26 I_35 F_36 => ?_)
      have F_37 : zk_fr (fr_DayRun_sayFirst r1) g0 g26 := zk_ft F_26 F_36 (fun a i => (fun h => Or.elim h (fun h => (Or.inr (Or.inl h))) (fun h => (Or.inr (Or.inr (Or.inl h))))))
      exact hQ _ I_35 F_37
    · refine ⟨⟨by omega, by omega⟩, ?_⟩
      intro g29 e_38
      have I_39 : zk_I g29 := by rw [e_38]; exact zk_upd (L := 0) (H := 15) rfl rfl I_24 ⟨by omega, by omega⟩
      have F_40 : zk_fr (fr_DayRun_sayFirst r1) g0 g29 := by rw [e_38]; exact zk_fu F_26 (Or.inr (Or.inr (Or.inr (Or.inr (Or.inr (Or.inr (Or.inl rfl)))))))
      have m_44 : 0 ≤ (g29 177 2) ∧ (g29 177 2) ≤ 90 := I_39.1 177 2
      have m_45 : g29 177 2 = g15 177 2 := by rw [e_38]; exact zi_u_ne (by decide)
      refine ⟨⟨by omega, by omega⟩, ?_⟩
      intro g31 e_41
      have I_42 : zk_I g31 := by rw [e_41]; exact zk_upd (L := 0) (H := 9) rfl rfl I_39 ⟨by omega, by omega⟩
      have F_43 : zk_fr (fr_DayRun_sayFirst r1) g0 g31 := by rw [e_41]; exact zk_fu F_40 (Or.inr (Or.inr (Or.inr (Or.inr (Or.inr (Or.inr (Or.inr (Or.inl rfl))))))))
      have m_49 : 0 ≤ (g31 177 2) ∧ (g31 177 2) ≤ 90 := I_42.1 177 2
      have m_50 : g31 177 2 = g29 177 2 := by rw [e_41]; exact zi_u_ne (by decide)
      intro g32 e_46
      have I_47 : zk_I g32 := by rw [e_46]; exact zk_upd (L := 0) (H := 90) rfl rfl I_42 ⟨by omega, by omega⟩
      have F_48 : zk_fr (fr_DayRun_sayFirst r1) g0 g32 := by rw [e_46]; exact zk_fu F_43 (Or.inr (Or.inr (Or.inr (Or.inr (Or.inr (Or.inr (Or.inr (Or.inr (Or.inr (Or.inr (Or.inr (Or.inr (Or.inr (Or.inr (Or.inr ⟨rfl, rfl⟩)))))))))))))))
      refine k_World_dropFirst hr1 I_47 ⟨by omega, by omega⟩ (fun g34 I_51 F_52 => ?_)
      have F_53 : zk_fr (fr_DayRun_sayFirst r1) g0 g34 := zk_ft F_48 F_52 (fun a i => (fun h => Or.elim h (fun h => (Or.inr (Or.inl h))) (fun h => (Or.inr (Or.inr (Or.inl h))))))
      exact hQ _ I_51 F_53
set_option maxRecDepth 100000 in
set_option maxHeartbeats 4000000 in
theorem k_DayRun_sayFirst {r1 : Nat} (hr1 : zs_sh r1 = some (10, 20)) {l4 : Int} {g : zi_M} {Q : Int → zi_M → Prop} (I : zk_I g) (p4 : 0 ≤ l4 ∧ l4 ≤ 9) (hQ : ∀ g' : zi_M, zk_I g' → zk_fr (fr_DayRun_sayFirst r1) g g' → Q 0 g') : w_DayRun_sayFirst r1 l4 g Q := by
  unfold w_DayRun_sayFirst
  have m_6 := zk_c10_8 hr1 I
  have m_7 := zk_a10_7 hr1 I ((l4 * 20) + 0)
  refine k_World_wordAt hr1 I ⟨by omega, by omega⟩ ⟨by omega, by omega⟩ (fun v1 b_1 b_2 b_3 b_4 b_5 => ?_)
  try simp only [Nat.reduceAdd] at b_1 b_2 b_3 b_4 b_5
  refine k_Law_tells hr1 I ⟨by omega, by omega⟩ ⟨by omega, by omega⟩ ⟨by omega, by omega⟩ (fun v4 g5 I_9 F_10 b_8 => ?_)
  have F_11 : zk_fr (fr_DayRun_sayFirst r1) g g5 := zk_ft (zk_f0 _) F_10 (fun a i => (fun h => Or.elim h (fun h => (Or.inr (Or.inr (Or.inr (Or.inr (Or.inr (Or.inr (Or.inr (Or.inr (Or.inr (Or.inl h))))))))))) (fun h => (Or.inr (Or.inr (Or.inr (Or.inr (Or.inr (Or.inr (Or.inr (Or.inr (Or.inr (Or.inr (Or.inl h))))))))))))))
  refine k_World_slips hr1 I_9 ⟨by omega, by omega⟩ (fun v7 g8 I_13 F_14 b_12 => ?_)
  have F_15 : zk_fr (fr_DayRun_sayFirst r1) g g8 := zk_ft F_11 F_14 (fun a i => (fun h => (Or.inr (Or.inr (Or.inr (Or.inr (Or.inr (Or.inr (Or.inr (Or.inr (Or.inr (Or.inr (Or.inr (Or.inr (Or.inr (Or.inl h))))))))))))))))
  refine ⟨fun c40 => ?_, fun c40 => ?_⟩
  · exact k_DayRun_sayFirst_b48 hr1 I_13 F_15 ⟨by omega, by omega⟩ ⟨by omega, by omega⟩ hQ
  · refine ⟨⟨by omega, by omega⟩, ?_⟩
    have m_57 := zk_c10_16 hr1 I_13
    have m_58 := zi_r_w ((g8 r1 16) + 1)
    intro g39 e_54
    have I_55 : zk_I g39 := by rw [e_54]; exact zk_upd (zk_lc10_16 hr1).1 (zk_lc10_16 hr1).2 I_13 ⟨by omega, by omega⟩ (zj_w10 hr1)
    have F_56 : zk_fr (fr_DayRun_sayFirst r1) g g39 := by rw [e_54]; exact zk_fu F_15 (Or.inr (Or.inr (Or.inr (Or.inr (Or.inr (Or.inr (Or.inr (Or.inr (Or.inr (Or.inr (Or.inr (Or.inr (Or.inl ⟨rfl, rfl⟩)))))))))))))
    have m_59 := zi_tmod_f (v1 + 1) 16
    have m_60 := zi_tmod_c (v1 + 1) 16 (by decide)
    exact k_DayRun_sayFirst_b48 hr1 I_55 F_56 ⟨by omega, by omega⟩ ⟨by omega, by omega⟩ hQ
-- SpoutNews$World.heardSet(I)I
set_option maxRecDepth 100000 in
set_option maxHeartbeats 4000000 in
theorem k_World_heardSet_l4 {g : zi_M} {r0 : Nat} (hr0 : zs_sh r0 = some (10, 20)) (I : zk_I g) {l1 : Int} {K31 : Int → zi_M → Prop} {Q : Int → zi_M → Prop} (q1 : 0 ≤ l1 ∧ l1 ≤ 9) (hK31 : ∀ (k2 : Int), (0 ≤ k2 ∧ k2 ≤ 65535) → K31 k2 g) (hQ : ∀ v : Int, (0 ≤ v ∧ v ≤ 65535) → Q v g) : ∀ (n : Nat) {l2 : Int} {l3 : Int}, (0 ≤ l2 ∧ l2 ≤ 65535) → (0 ≤ l3 ∧ l3 ≤ 20) → 20 - l3 < (n : Int) → w_World_heardSet_l4 r0 l1 K31 Q n l2 l3 g
  | 0, l2, l3, b0, b1, hm => by exfalso; omega
  | n + 1, l2, l3, b0, b1, hm => by
    unfold w_World_heardSet_l4
    refine ⟨⟨by omega, by omega⟩, ?_⟩
    have m_1 := zk_a10_6 hr0 I l1
    refine ⟨⟨by omega, by omega⟩, ⟨by omega, by omega⟩, ?_⟩
    refine ⟨fun c7 => ?_, fun c7 => ?_⟩
    · exact hK31 _ ⟨by omega, by omega⟩
    · have m_7 := zk_c10_8 hr0 I
      have m_8 := zk_a10_7 hr0 I ((l1 * 20) + l3)
      refine k_World_wordAt hr0 I ⟨by omega, by omega⟩ ⟨by omega, by omega⟩ (fun v4 b_2 b_3 b_4 b_5 b_6 => ?_)
      try simp only [Nat.reduceAdd] at b_2 b_3 b_4 b_5 b_6
      have m_9 := zi_r_shl 1 v4
      try have m_10 := (zi_shl_f v4).2.1 ⟨by omega, by omega⟩
      first | have m_11 := (zi_shl_f v4).2.2.1 ⟨by omega, by omega⟩ | have m_12 := (zi_shl_f v4).2.2.2.1 ⟨by omega, by omega⟩ | have m_13 := (zi_shl_f v4).2.2.2.2.1 ⟨by omega, by omega⟩ | have m_14 := (zi_shl_f v4).2.2.2.2.2.1 ⟨by omega, by omega⟩ | have m_15 := (zi_shl_f v4).2.2.2.2.2.2 ⟨by omega, by omega⟩ | skip
      first | have m_16 := (zi_or_f l2 (zi_shl 1 v4)).2.1 ⟨by omega, by omega, by omega, by omega⟩ | have m_16 := (zi_or_f l2 (zi_shl 1 v4)).2.2.1 ⟨by omega, by omega, by omega, by omega⟩ | have m_16 := (zi_or_f l2 (zi_shl 1 v4)).2.2.2.1 ⟨by omega, by omega, by omega, by omega⟩ | have m_16 := (zi_or_f l2 (zi_shl 1 v4)).2.2.2.2.1 ⟨by omega, by omega, by omega, by omega⟩ | have m_16 := (zi_or_f l2 (zi_shl 1 v4)).2.2.2.2.2 ⟨by omega, by omega, by omega, by omega⟩ | have m_16 := zi_r_or l2 (zi_shl 1 v4)
      exact k_World_heardSet_l4 hr0 I q1 hK31 hQ n ⟨by omega, by omega⟩ ⟨by omega, by omega⟩ (by omega)
set_option maxRecDepth 100000 in
set_option maxHeartbeats 4000000 in
theorem k_World_heardSet {r0 : Nat} (hr0 : zs_sh r0 = some (10, 20)) {l1 : Int} {g : zi_M} {Q : Int → zi_M → Prop} (I : zk_I g) (p1 : 0 ≤ l1 ∧ l1 ≤ 9) (hQ : ∀ v : Int, (0 ≤ v ∧ v ≤ 65535) → Q v g) : w_World_heardSet r0 l1 g Q := by
  unfold w_World_heardSet
  refine ⟨((20 - 0 : Int).toNat + 1), k_World_heardSet_l4 (l1 := l1) hr0 I ⟨by omega, by omega⟩ (fun k8 b_17 => ?_) hQ ((20 - 0 : Int).toNat + 1) ⟨by omega, by omega⟩ ⟨by omega, by omega⟩ (by omega)⟩
  exact hQ _ ⟨by omega, by omega⟩
-- SpoutNews$World.takeIn(II)Z
set_option maxRecDepth 100000 in
set_option maxHeartbeats 4000000 in
theorem k_World_takeIn {r0 : Nat} (hr0 : zs_sh r0 = some (10, 20)) {l1 : Int} {l2 : Int} {g : zi_M} {Q : Int → zi_M → Prop} (I : zk_I g) (p1 : 0 ≤ l1 ∧ l1 ≤ 9) (p2 : 0 ≤ l2 ∧ l2 ≤ 15) (hQ : ∀ (v : Int) (g' : zi_M), zk_I g' → zk_fr (fr_World_takeIn r0) g g' → (0 ≤ v ∧ v ≤ 1) → Q v g') : w_World_takeIn r0 l1 l2 g Q := by
  unfold w_World_takeIn
  refine ⟨⟨by omega, by omega⟩, ?_⟩
  have m_1 := zk_a10_6 hr0 I l1
  refine ⟨⟨by omega, by omega⟩, ?_⟩
  refine ⟨fun c10 => ?_, fun c10 => ?_⟩
  · exact hQ _ _ I (zk_f0 _) ⟨by omega, by omega⟩
  · refine k_World_heardSet hr0 I ⟨by omega, by omega⟩ (fun v3 b_2 => ?_)
    have m_3 := zi_r_shr v3 l2
    try have m_4 := (zi_shr_f v3 l2).2 ⟨by omega, by omega⟩
    have m_5 := zi_r_and (zi_shr v3 l2) 1
    try have m_6 := (zi_and_f (zi_shr v3 l2) 1).2.1 ⟨by omega, by omega⟩
    try have m_7 := (zi_and_f (zi_shr v3 l2) 1).2.2 ⟨by omega, by omega⟩
    refine ⟨fun c9 => ?_, fun c9 => ?_⟩
    · refine ⟨⟨by omega, by omega⟩, ?_⟩
      intro g7 e_8
      have I_9 : zk_I g7 := by rw [e_8]; exact zk_upd (zk_la10_7 hr0).1 (zk_la10_7 hr0).2 I ⟨by omega, by omega⟩ (zj_a10_7 hr0)
      have F_10 : zk_fr (fr_World_takeIn r0) g g7 := by rw [e_8]; exact zk_fu (zk_f0 _) (Or.inr rfl)
      intro g8 e_11
      have I_12 : zk_I g8 := by rw [e_11]; exact zk_upd (zk_la10_6 hr0).1 (zk_la10_6 hr0).2 I_9 ⟨by omega, by omega⟩ (zj_a10_6 hr0)
      have F_13 : zk_fr (fr_World_takeIn r0) g g8 := by rw [e_11]; exact zk_fu F_10 (Or.inl rfl)
      exact hQ _ _ I_12 F_13 ⟨by omega, by omega⟩
    · exact hQ _ _ I (zk_f0 _) ⟨by omega, by omega⟩
-- SpoutNews$DayRun.leadOn(LSpoutNews$World;LSpoutNews$Book;)V
set_option maxRecDepth 100000 in
set_option maxHeartbeats 4000000 in
theorem k_DayRun_leadOn_l2 {r1 : Nat} (hr1 : zs_sh r1 = some (10, 20)) {K64 : zi_M → Prop} {Q : Int → zi_M → Prop} {g0 : zi_M} (hK64 : ∀ (g : zi_M), zk_I g → zk_fr (fr_DayRun_leadOn r1) g0 g → K64 g) (hQ : ∀ g' : zi_M, zk_I g' → zk_fr (fr_DayRun_leadOn r1) g0 g' → Q 0 g') : ∀ (n : Nat) {l3 : Int} {g : zi_M}, zk_I g → zk_fr (fr_DayRun_leadOn r1) g0 g → (0 ≤ l3 ∧ l3 ≤ 90) → 90 - l3 < (n : Int) → w_DayRun_leadOn_l2 r1 K64 Q n l3 g
  | 0, l3, g, I, F, b0, hm => by exfalso; omega
  | n + 1, l3, g, I, F, b0, hm => by
    unfold w_DayRun_leadOn_l2
    have m_1 : 0 ≤ (g 177 2) ∧ (g 177 2) ≤ 90 := I.1 177 2
    refine ⟨⟨by omega, by omega⟩, ⟨by omega, by omega⟩, ?_⟩
    refine ⟨fun c14 => ?_, fun c14 => ?_⟩
    · exact hK64 _ I F
    · refine ⟨⟨by omega, by omega⟩, ?_⟩
      have m_2 : 0 ≤ (g 179 l3) ∧ (g 179 l3) ≤ 9 := I.1 179 l3
      refine ⟨⟨by omega, by omega⟩, ?_⟩
      have m_3 := zk_a10_4 hr1 I (g 179 l3)
      refine ⟨⟨by omega, by omega⟩, ?_⟩
      refine ⟨fun c13 => ?_, fun c13 => ?_⟩
      · exact k_DayRun_leadOn_l2 hr1 hK64 hQ n I F ⟨by omega, by omega⟩ (by omega)
      · have m_4 : 0 ≤ (g 178 l3) ∧ (g 178 l3) ≤ 15 := I.1 178 l3
        refine k_World_takeIn hr1 I ⟨by omega, by omega⟩ ⟨by omega, by omega⟩ (fun v6 g7 I_6 F_7 b_5 => ?_)
        have F_8 : zk_fr (fr_DayRun_leadOn r1) g0 g7 := zk_ft F F_7 (fun a i => (fun h => Or.elim h (fun h => (Or.inl h)) (fun h => (Or.inr (Or.inl h)))))
        refine ⟨fun c12 => ?_, fun c12 => ?_⟩
        · exact k_DayRun_leadOn_l2 hr1 hK64 hQ n I_6 F_8 ⟨by omega, by omega⟩ (by omega)
        · have m_9 : 0 ≤ (g7 178 l3) ∧ (g7 178 l3) ≤ 15 := I_6.1 178 l3
          refine k_Book_write hr1 I_6 ⟨by omega, by omega⟩ ⟨by omega, by omega⟩ ⟨by omega, by omega⟩ (fun g10 I_10 F_11 => ?_)
          have F_12 : zk_fr (fr_DayRun_leadOn r1) g0 g10 := zk_ft F_8 F_11 (fun a i => (fun h => Or.elim h (fun h => (Or.inr (Or.inr (Or.inl h)))) (fun h => Or.elim h (fun h => (Or.inr (Or.inr (Or.inr (Or.inl h))))) (fun h => Or.elim h (fun h => (Or.inr (Or.inr (Or.inr (Or.inr (Or.inl h)))))) (fun h => Or.elim h (fun h => (Or.inr (Or.inr (Or.inr (Or.inr (Or.inr (Or.inl h))))))) (fun h => (Or.inr (Or.inr (Or.inr (Or.inr (Or.inr (Or.inr h))))))))))))
          exact k_DayRun_leadOn_l2 hr1 hK64 hQ n I_10 F_12 ⟨by omega, by omega⟩ (by omega)
set_option maxRecDepth 100000 in
set_option maxHeartbeats 4000000 in
theorem k_DayRun_leadOn {r1 : Nat} (hr1 : zs_sh r1 = some (10, 20)) {g : zi_M} {Q : Int → zi_M → Prop} (I : zk_I g) (hQ : ∀ g' : zi_M, zk_I g' → zk_fr (fr_DayRun_leadOn r1) g g' → Q 0 g') : w_DayRun_leadOn r1 g Q := by
  unfold w_DayRun_leadOn
  refine ⟨((90 - 0 : Int).toNat + 1), k_DayRun_leadOn_l2 hr1 (fun g15 I_13 F_14 => ?_) hQ ((90 - 0 : Int).toNat + 1) I (zk_f0 _) ⟨by omega, by omega⟩ (by omega)⟩
  exact hQ _ I_13 F_14
-- SpoutNews$DayRun.passWet(LSpoutNews$World;LSpoutNews$Texts;LSpoutNews$Book;)V
set_option maxRecDepth 100000 in
set_option maxHeartbeats 4000000 in
theorem k_DayRun_passWet_l53 {r1 : Nat} (hr1 : zs_sh r1 = some (10, 20)) {l4 : Int} {l5 : Int} {K75 : zi_M → Prop} {Q : Int → zi_M → Prop} {g0 : zi_M} (q4 : 0 ≤ l4 ∧ l4 ≤ 9) (q5 : 0 ≤ l5 ∧ l5 ≤ 20) (hK75 : ∀ (g : zi_M), zk_I g → zk_fr (fr_DayRun_passWet r1) g0 g → K75 g) (hQ : ∀ g' : zi_M, zk_I g' → zk_fr (fr_DayRun_passWet r1) g0 g' → Q 0 g') : ∀ (n : Nat) {l6 : Int} {g : zi_M}, zk_I g → zk_fr (fr_DayRun_passWet r1) g0 g → (0 ≤ l6 ∧ l6 ≤ 20) → 20 - l6 < (n : Int) → w_DayRun_passWet_l53 r1 l4 l5 K75 Q n l6 g
  | 0, l6, g, I, F, b0, hm => by exfalso; omega
  | n + 1, l6, g, I, F, b0, hm => by
    unfold w_DayRun_passWet_l53
    refine ⟨⟨by omega, by omega⟩, ⟨by omega, by omega⟩, ?_⟩
    refine ⟨fun c18 => ?_, fun c18 => ?_⟩
    · exact hK75 _ I F
    · refine k_DayRun_sayFirst hr1 I ⟨by omega, by omega⟩ (fun g16 I_16 F_17 => ?_)
      have F_18 : zk_fr (fr_DayRun_passWet r1) g0 g16 := zk_ft F F_17 (fun a i => (fun h => Or.elim h (fun h => (Or.inl h)) (fun h => Or.elim h (fun h => (Or.inr (Or.inr (Or.inl h)))) (fun h => Or.elim h (fun h => (Or.inr (Or.inr (Or.inr (Or.inl h))))) (fun h => Or.elim h (fun h => (Or.inr (Or.inr (Or.inr (Or.inr (Or.inl h)))))) (fun h => Or.elim h (fun h => (Or.inr (Or.inr (Or.inr (Or.inr (Or.inr (Or.inl h))))))) (fun h => Or.elim h (fun h => (Or.inr (Or.inr (Or.inr (Or.inr (Or.inr (Or.inr (Or.inl h)))))))) (fun h => Or.elim h (fun h => (Or.inr (Or.inr (Or.inr (Or.inr (Or.inr (Or.inr (Or.inr (Or.inl h))))))))) (fun h => Or.elim h (fun h => (Or.inr (Or.inr (Or.inr (Or.inr (Or.inr (Or.inr (Or.inr (Or.inr (Or.inl h)))))))))) (fun h => Or.elim h (fun h => (Or.inr (Or.inr (Or.inr (Or.inr (Or.inr (Or.inr (Or.inr (Or.inr (Or.inr (Or.inl h))))))))))) (fun h => Or.elim h (fun h => (Or.inr (Or.inr (Or.inr (Or.inr (Or.inr (Or.inr (Or.inr (Or.inr (Or.inr (Or.inr (Or.inl h)))))))))))) (fun h => Or.elim h (fun h => (Or.inr (Or.inr (Or.inr (Or.inr (Or.inr (Or.inr (Or.inr (Or.inr (Or.inr (Or.inr (Or.inr (Or.inl h))))))))))))) (fun h => Or.elim h (fun h => (Or.inr (Or.inr (Or.inr (Or.inr (Or.inr (Or.inr (Or.inr (Or.inr (Or.inr (Or.inr (Or.inr (Or.inr (Or.inl h)))))))))))))) (fun h => Or.elim h (fun h => (Or.inr (Or.inr (Or.inr (Or.inr (Or.inr (Or.inr (Or.inr (Or.inr (Or.inr (Or.inr (Or.inr (Or.inr (Or.inr (Or.inl h))))))))))))))) (fun h => Or.elim h (fun h => (Or.inr (Or.inr (Or.inr (Or.inr (Or.inr (Or.inr (Or.inr (Or.inr (Or.inr (Or.inr (Or.inr (Or.inr (Or.inr (Or.inr (Or.inl h)))))))))))))))) (fun h => Or.elim h (fun h => (Or.inr (Or.inr (Or.inr (Or.inr (Or.inr (Or.inr (Or.inr (Or.inr (Or.inr (Or.inr (Or.inr (Or.inr (Or.inr (Or.inr (Or.inr (Or.inl h))))))))))))))))) (fun h => (Or.inr (Or.inr (Or.inr (Or.inr (Or.inr (Or.inr (Or.inr (Or.inr (Or.inr (Or.inr (Or.inr (Or.inr (Or.inr (Or.inr (Or.inr (Or.inr h)))))))))))))))))))))))))))))))))
      exact k_DayRun_passWet_l53 hr1 q4 q5 hK75 hQ n I_16 F_18 ⟨by omega, by omega⟩ (by omega)
set_option maxRecDepth 100000 in
set_option maxHeartbeats 4000000 in
theorem k_DayRun_passWet_l8 {r1 : Nat} (hr1 : zs_sh r1 = some (10, 20)) {K81 : zi_M → Prop} {Q : Int → zi_M → Prop} {g0 : zi_M} (hK81 : ∀ (g : zi_M), zk_I g → zk_fr (fr_DayRun_passWet r1) g0 g → K81 g) (hQ : ∀ g' : zi_M, zk_I g' → zk_fr (fr_DayRun_passWet r1) g0 g' → Q 0 g') : ∀ (n : Nat) {l4 : Int} {g : zi_M}, zk_I g → zk_fr (fr_DayRun_passWet r1) g0 g → (0 ≤ l4 ∧ l4 ≤ 10) → 10 - l4 < (n : Int) → w_DayRun_passWet_l8 r1 K81 Q n l4 g
  | 0, l4, g, I, F, b0, hm => by exfalso; omega
  | n + 1, l4, g, I, F, b0, hm => by
    unfold w_DayRun_passWet_l8
    have m_4 := zk_c10_8 hr1 I
    refine ⟨⟨by omega, by omega⟩, ⟨by omega, by omega⟩, ?_⟩
    refine ⟨fun c22 => ?_, fun c22 => ?_⟩
    · exact hK81 _ I F
    · have m_9 := zk_a10_4 hr1 I (l4)
      have m_10 := zk_c10_14 hr1 I
      refine k_World_speaks hr1 I ⟨by omega, by omega⟩ (fun v4 b_5 b_6 b_7 b_8 => ?_)
      try simp only [Nat.reduceAdd] at b_5 b_6 b_7 b_8
      refine ⟨fun c21 => ?_, fun c21 => ?_⟩
      · exact k_DayRun_passWet_l8 hr1 hK81 hQ n I F ⟨by omega, by omega⟩ (by omega)
      · refine k_Law_tells hr1 I ⟨by omega, by omega⟩ ⟨by omega, by omega⟩ ⟨by omega, by omega⟩ (fun v7 g8 I_12 F_13 b_11 => ?_)
        have F_14 : zk_fr (fr_DayRun_passWet r1) g0 g8 := zk_ft F F_13 (fun a i => (fun h => Or.elim h (fun h => (Or.inr (Or.inr (Or.inr (Or.inr (Or.inr (Or.inr (Or.inr (Or.inr (Or.inr (Or.inr (Or.inl h)))))))))))) (fun h => (Or.inr (Or.inr (Or.inr (Or.inr (Or.inr (Or.inr (Or.inr (Or.inr (Or.inr (Or.inr (Or.inr (Or.inl h)))))))))))))))
        refine ⟨⟨by omega, by omega⟩, ?_⟩
        have m_15 := zk_a10_6 hr1 I_12 l4
        refine ⟨⟨by omega, by omega⟩, ⟨by omega, by omega⟩, ?_⟩
        refine ⟨((20 - 0 : Int).toNat + 1), k_DayRun_passWet_l53 (l4 := l4) (l5 := (min v7 (g8 (r1 + 6) l4))) hr1 ⟨by omega, by omega⟩ ⟨by omega, by omega⟩ (fun g19 I_19 F_20 => ?_) hQ ((20 - 0 : Int).toNat + 1) I_12 F_14 ⟨by omega, by omega⟩ (by omega)⟩
        exact k_DayRun_passWet_l8 hr1 hK81 hQ n I_19 F_20 ⟨by omega, by omega⟩ (by omega)
set_option maxRecDepth 100000 in
set_option maxHeartbeats 4000000 in
theorem k_DayRun_passWet_l90 {r1 : Nat} (hr1 : zs_sh r1 = some (10, 20)) {K113 : zi_M → Prop} {Q : Int → zi_M → Prop} {g0 : zi_M} (hK113 : ∀ (g : zi_M), zk_I g → zk_fr (fr_DayRun_passWet r1) g0 g → K113 g) (hQ : ∀ g' : zi_M, zk_I g' → zk_fr (fr_DayRun_passWet r1) g0 g' → Q 0 g') : ∀ (n : Nat) {l4 : Int} {g : zi_M}, zk_I g → zk_fr (fr_DayRun_passWet r1) g0 g → (0 ≤ l4 ∧ l4 ≤ 10) → 10 - l4 < (n : Int) → w_DayRun_passWet_l90 r1 K113 Q n l4 g
  | 0, l4, g, I, F, b0, hm => by exfalso; omega
  | n + 1, l4, g, I, F, b0, hm => by
    unfold w_DayRun_passWet_l90
    have m_26 := zk_c10_8 hr1 I
    refine ⟨⟨by omega, by omega⟩, ⟨by omega, by omega⟩, ?_⟩
    refine ⟨fun c31 => ?_, fun c31 => ?_⟩
    · exact hK113 _ I F
    · refine ⟨⟨by omega, by omega⟩, ?_⟩
      intro g30 e_27
      have I_28 : zk_I g30 := by rw [e_27]; exact zk_upd (zk_la10_5 hr1).1 (zk_la10_5 hr1).2 I ⟨by omega, by omega⟩ (zj_a10_5 hr1)
      have F_29 : zk_fr (fr_DayRun_passWet r1) g0 g30 := by rw [e_27]; exact zk_fu F (Or.inr (Or.inl rfl))
      exact k_DayRun_passWet_l90 hr1 hK113 hQ n I_28 F_29 ⟨by omega, by omega⟩ (by omega)
set_option maxRecDepth 100000 in
set_option maxHeartbeats 4000000 in
theorem k_DayRun_passWet {r1 : Nat} (hr1 : zs_sh r1 = some (10, 20)) {g : zi_M} {Q : Int → zi_M → Prop} (I : zk_I g) (hQ : ∀ g' : zi_M, zk_I g' → zk_fr (fr_DayRun_passWet r1) g g' → Q 0 g') : w_DayRun_passWet r1 g Q := by
  unfold w_DayRun_passWet
  intro g1 e_1
  have I_2 : zk_I g1 := by rw [e_1]; exact zk_upd (L := 0) (H := 90) rfl rfl I ⟨by omega, by omega⟩
  have F_3 : zk_fr (fr_DayRun_passWet r1) g g1 := by rw [e_1]; exact zk_fu (zk_f0 _) (Or.inr (Or.inr (Or.inr (Or.inr (Or.inr (Or.inr (Or.inr (Or.inr (Or.inr (Or.inr (Or.inr (Or.inr (Or.inr (Or.inr (Or.inr (Or.inr ⟨rfl, rfl⟩))))))))))))))))
  refine ⟨((10 - 0 : Int).toNat + 1), k_DayRun_passWet_l8 hr1 (fun g23 I_21 F_22 => ?_) hQ ((10 - 0 : Int).toNat + 1) I_2 F_3 ⟨by omega, by omega⟩ (by omega)⟩
  refine k_DayRun_leadOn hr1 I_21 (fun g25 I_23 F_24 => ?_)
  have F_25 : zk_fr (fr_DayRun_passWet r1) g g25 := zk_ft F_22 F_24 (fun a i => (fun h => Or.elim h (fun h => (Or.inr (Or.inr (Or.inl h)))) (fun h => Or.elim h (fun h => (Or.inr (Or.inr (Or.inr (Or.inl h))))) (fun h => Or.elim h (fun h => (Or.inr (Or.inr (Or.inr (Or.inr (Or.inl h)))))) (fun h => Or.elim h (fun h => (Or.inr (Or.inr (Or.inr (Or.inr (Or.inr (Or.inl h))))))) (fun h => Or.elim h (fun h => (Or.inr (Or.inr (Or.inr (Or.inr (Or.inr (Or.inr (Or.inl h)))))))) (fun h => Or.elim h (fun h => (Or.inr (Or.inr (Or.inr (Or.inr (Or.inr (Or.inr (Or.inr (Or.inr (Or.inr (Or.inl h))))))))))) (fun h => (Or.inr (Or.inr (Or.inr (Or.inr (Or.inr (Or.inr (Or.inr (Or.inr (Or.inr (Or.inr (Or.inr (Or.inr (Or.inr (Or.inr (Or.inr (Or.inl h))))))))))))))))))))))))
  refine ⟨((10 - 0 : Int).toNat + 1), k_DayRun_passWet_l90 hr1 (fun g32 I_30 F_31 => ?_) hQ ((10 - 0 : Int).toNat + 1) I_23 F_25 ⟨by omega, by omega⟩ (by omega)⟩
  exact hQ _ I_30 F_31
-- SpoutNews$DayRun.listen(LSpoutNews$World;LSpoutNews$Texts;LSpoutNews$Book;II)V
set_option maxRecDepth 100000 in
set_option maxHeartbeats 4000000 in
theorem k_DayRun_listen_l17 {r1 : Nat} (hr1 : zs_sh r1 = some (10, 20)) {l4 : Int} {l5 : Int} {K70 : zi_M → Prop} {Q : Int → zi_M → Prop} {g0 : zi_M} (q4 : 0 ≤ l4 ∧ l4 ≤ 9) (q5 : (-2147483648) ≤ l5 ∧ l5 ≤ 2147483647) (hK70 : ∀ (g : zi_M), zk_I g → zk_fr (fr_DayRun_listen r1) g0 g → K70 g) (hQ : ∀ g' : zi_M, zk_I g' → zk_fr (fr_DayRun_listen r1) g0 g' → Q 0 g') : ∀ (n : Nat) {l6 : Int} {l7 : Int} {g : zi_M}, zk_I g → zk_fr (fr_DayRun_listen r1) g0 g → (0 ≤ l6 ∧ l6 ≤ 1000) → (0 ≤ l7 ∧ l7 ≤ 16) → 16 - l7 < (n : Int) → w_DayRun_listen_l17 r1 l4 l5 K70 Q n l6 l7 g
  | 0, l6, l7, g, I, F, b0, b1, hm => by exfalso; omega
  | n + 1, l6, l7, g, I, F, b0, b1, hm => by
    unfold w_DayRun_listen_l17
    refine ⟨⟨by omega, by omega⟩, ?_⟩
    refine ⟨fun c15 => ?_, fun c15 => ?_⟩
    · exact hK70 _ I F
    · refine ⟨⟨by omega, by omega⟩, ?_⟩
      refine ⟨fun c14 => ?_, fun c14 => ?_⟩
      · exact hK70 _ I F
      · have m_5 := zi_r_shr l5 l7
        try have m_6 := (zi_shr_f l5 l7).2 ⟨by omega, by omega⟩
        have m_7 := zi_r_and (zi_shr l5 l7) 1
        try have m_8 := (zi_and_f (zi_shr l5 l7) 1).2.1 ⟨by omega, by omega⟩
        try have m_9 := (zi_and_f (zi_shr l5 l7) 1).2.2 ⟨by omega, by omega⟩
        refine ⟨fun c13 => ?_, fun c13 => ?_⟩
        · exact k_DayRun_listen_l17 hr1 q4 q5 hK70 hQ n I F ⟨by omega, by omega⟩ ⟨by omega, by omega⟩ (by omega)
        · refine k_World_takeIn hr1 I ⟨by omega, by omega⟩ ⟨by omega, by omega⟩ (fun v6 g7 I_11 F_12 b_10 => ?_)
          have F_13 : zk_fr (fr_DayRun_listen r1) g0 g7 := zk_ft F F_12 (fun a i => (fun h => Or.elim h (fun h => (Or.inl h)) (fun h => (Or.inr (Or.inl h)))))
          refine ⟨fun c12 => ?_, fun c12 => ?_⟩
          · exact k_DayRun_listen_l17 hr1 q4 q5 hK70 hQ n I_11 F_13 ⟨by omega, by omega⟩ ⟨by omega, by omega⟩ (by omega)
          · refine k_Book_write hr1 I_11 ⟨by omega, by omega⟩ ⟨by omega, by omega⟩ ⟨by omega, by omega⟩ (fun g10 I_14 F_15 => ?_)
            have F_16 : zk_fr (fr_DayRun_listen r1) g0 g10 := zk_ft F_13 F_15 (fun a i => (fun h => Or.elim h (fun h => (Or.inr (Or.inr (Or.inl h)))) (fun h => Or.elim h (fun h => (Or.inr (Or.inr (Or.inr (Or.inl h))))) (fun h => Or.elim h (fun h => (Or.inr (Or.inr (Or.inr (Or.inr (Or.inl h)))))) (fun h => Or.elim h (fun h => (Or.inr (Or.inr (Or.inr (Or.inr (Or.inr (Or.inl h))))))) (fun h => (Or.inr (Or.inr (Or.inr (Or.inr (Or.inr (Or.inr (Or.inr (Or.inr h))))))))))))))
            exact k_DayRun_listen_l17 hr1 q4 q5 hK70 hQ n I_14 F_16 ⟨by omega, by omega⟩ ⟨by omega, by omega⟩ (by omega)
set_option maxRecDepth 100000 in
set_option maxHeartbeats 4000000 in
theorem k_DayRun_listen {r1 : Nat} (hr1 : zs_sh r1 = some (10, 20)) {l4 : Int} {l5 : Int} {g : zi_M} {Q : Int → zi_M → Prop} (I : zk_I g) (p4 : 0 ≤ l4 ∧ l4 ≤ 9) (p5 : (-2147483648) ≤ l5 ∧ l5 ≤ 2147483647) (hQ : ∀ g' : zi_M, zk_I g' → zk_fr (fr_DayRun_listen r1) g g' → Q 0 g') : w_DayRun_listen r1 l4 l5 g Q := by
  unfold w_DayRun_listen
  refine k_Law_tells hr1 I ⟨by omega, by omega⟩ ⟨by omega, by omega⟩ ⟨by omega, by omega⟩ (fun v1 g2 I_2 F_3 b_1 => ?_)
  have F_4 : zk_fr (fr_DayRun_listen r1) g g2 := zk_ft (zk_f0 _) F_3 (fun a i => (fun h => Or.elim h (fun h => (Or.inr (Or.inr (Or.inr (Or.inr (Or.inr (Or.inr (Or.inl h)))))))) (fun h => (Or.inr (Or.inr (Or.inr (Or.inr (Or.inr (Or.inr (Or.inr (Or.inl h)))))))))))
  refine ⟨((16 - 0 : Int).toNat + 1), k_DayRun_listen_l17 (l4 := l4) (l5 := l5) hr1 ⟨by omega, by omega⟩ ⟨by omega, by omega⟩ (fun g16 I_17 F_18 => ?_) hQ ((16 - 0 : Int).toNat + 1) I_2 F_4 ⟨by omega, by omega⟩ ⟨by omega, by omega⟩ (by omega)⟩
  exact hQ _ I_17 F_18
-- SpoutNews$DayRun.passDry(LSpoutNews$World;LSpoutNews$Texts;LSpoutNews$Book;)V
set_option maxRecDepth 100000 in
set_option maxHeartbeats 4000000 in
theorem k_DayRun_passDry_l15 {r1 : Nat} (hr1 : zs_sh r1 = some (10, 20)) {l4 : Int} {K69 : zi_M → Prop} {Q : Int → zi_M → Prop} {g0 : zi_M} (q4 : 0 ≤ l4 ∧ l4 ≤ 9) (hK69 : ∀ (g : zi_M), zk_I g → zk_fr (fr_DayRun_passDry r1) g0 g → K69 g) (hQ : ∀ g' : zi_M, zk_I g' → zk_fr (fr_DayRun_passDry r1) g0 g' → Q 0 g') : ∀ (n : Nat) {l5 : Int} {g : zi_M}, zk_I g → zk_fr (fr_DayRun_passDry r1) g0 g → (0 ≤ l5 ∧ l5 ≤ 8) → 8 - l5 < (n : Int) → w_DayRun_passDry_l15 r1 l4 K69 Q n l5 g
  | 0, l5, g, I, F, b0, hm => by exfalso; omega
  | n + 1, l5, g, I, F, b0, hm => by
    unfold w_DayRun_passDry_l15
    have m_2 := zk_c10_11 hr1 I
    refine ⟨⟨by omega, by omega⟩, ⟨by omega, by omega⟩, ?_⟩
    refine ⟨fun c14 => ?_, fun c14 => ?_⟩
    · exact hK69 _ I F
    · refine ⟨⟨by omega, by omega⟩, ?_⟩
      have m_3 := zk_a10_4 hr1 I l4
      refine ⟨⟨by omega, by omega⟩, ?_⟩
      refine ⟨fun c13 => ?_, fun c13 => ?_⟩
      · exact hK69 _ I F
      · refine ⟨⟨by omega, by omega⟩, ?_⟩
        have m_4 := zk_a10_9 hr1 I l5
        refine ⟨⟨by omega, by omega⟩, ?_⟩
        refine ⟨fun c12 => ?_, fun c12 => ?_⟩
        · exact k_DayRun_passDry_l15 hr1 q4 hK69 hQ n I F ⟨by omega, by omega⟩ (by omega)
        · have m_5 := zk_a10_8 hr1 I l5
          refine k_DayRun_listen hr1 I ⟨by omega, by omega⟩ ⟨by omega, by omega⟩ (fun g10 I_6 F_7 => ?_)
          have F_8 : zk_fr (fr_DayRun_passDry r1) g0 g10 := zk_ft F F_7 (fun a i => (fun h => Or.elim h (fun h => (Or.inr (Or.inl h))) (fun h => Or.elim h (fun h => (Or.inr (Or.inr (Or.inl h)))) (fun h => Or.elim h (fun h => (Or.inr (Or.inr (Or.inr (Or.inl h))))) (fun h => Or.elim h (fun h => (Or.inr (Or.inr (Or.inr (Or.inr (Or.inl h)))))) (fun h => Or.elim h (fun h => (Or.inr (Or.inr (Or.inr (Or.inr (Or.inr (Or.inl h))))))) (fun h => Or.elim h (fun h => (Or.inr (Or.inr (Or.inr (Or.inr (Or.inr (Or.inr (Or.inl h)))))))) (fun h => Or.elim h (fun h => (Or.inr (Or.inr (Or.inr (Or.inr (Or.inr (Or.inr (Or.inr (Or.inl h))))))))) (fun h => Or.elim h (fun h => (Or.inr (Or.inr (Or.inr (Or.inr (Or.inr (Or.inr (Or.inr (Or.inr (Or.inl h)))))))))) (fun h => (Or.inr (Or.inr (Or.inr (Or.inr (Or.inr (Or.inr (Or.inr (Or.inr (Or.inr h)))))))))))))))))))
          exact k_DayRun_passDry_l15 hr1 q4 hK69 hQ n I_6 F_8 ⟨by omega, by omega⟩ (by omega)
set_option maxRecDepth 100000 in
set_option maxHeartbeats 4000000 in
theorem k_DayRun_passDry_b69 {r1 : Nat} (hr1 : zs_sh r1 = some (10, 20)) {l4 : Int} {H : Int → zi_M → Prop} {K97 : zi_M → Prop} {Q : Int → zi_M → Prop} {g : zi_M} {g0 : zi_M} (I : zk_I g) (F : zk_fr (fr_DayRun_passDry r1) g0 g) (p4 : 0 ≤ l4 ∧ l4 ≤ 9) (M : Int) (hM : 10 - l4 ≤ M) (hH : ∀ (m4 : Int) (g : zi_M), zk_I g → zk_fr (fr_DayRun_passDry r1) g0 g → (0 ≤ m4 ∧ m4 ≤ 10) → 10 - m4 < M → H m4 g) (hK97 : ∀ (g : zi_M), zk_I g → zk_fr (fr_DayRun_passDry r1) g0 g → K97 g) (hQ : ∀ g' : zi_M, zk_I g' → zk_fr (fr_DayRun_passDry r1) g0 g' → Q 0 g') : w_DayRun_passDry_b69 r1 l4 g H K97 Q := by
  unfold w_DayRun_passDry_b69
  refine ⟨⟨by omega, by omega⟩, ?_⟩
  have m_11 := zk_a10_5 hr1 I l4
  refine ⟨⟨by omega, by omega⟩, ?_⟩
  intro g18 e_12
  have I_13 : zk_I g18 := by rw [e_12]; exact zk_upd (zk_la10_5 hr1).1 (zk_la10_5 hr1).2 I ⟨by omega, by omega⟩ (zj_a10_5 hr1)
  have F_14 : zk_fr (fr_DayRun_passDry r1) g0 g18 := by rw [e_12]; exact zk_fu F (Or.inl rfl)
  exact hH _ _ I_13 F_14 ⟨by omega, by omega⟩ (by omega)
set_option maxRecDepth 100000 in
set_option maxHeartbeats 4000000 in
theorem k_DayRun_passDry_l3 {r1 : Nat} (hr1 : zs_sh r1 = some (10, 20)) {K97 : zi_M → Prop} {Q : Int → zi_M → Prop} {g0 : zi_M} (hK97 : ∀ (g : zi_M), zk_I g → zk_fr (fr_DayRun_passDry r1) g0 g → K97 g) (hQ : ∀ g' : zi_M, zk_I g' → zk_fr (fr_DayRun_passDry r1) g0 g' → Q 0 g') : ∀ (n : Nat) {l4 : Int} {g : zi_M}, zk_I g → zk_fr (fr_DayRun_passDry r1) g0 g → (0 ≤ l4 ∧ l4 ≤ 10) → 10 - l4 < (n : Int) → w_DayRun_passDry_l3 r1 K97 Q n l4 g
  | 0, l4, g, I, F, b0, hm => by exfalso; omega
  | n + 1, l4, g, I, F, b0, hm => by
    unfold w_DayRun_passDry_l3
    have m_1 := zk_c10_8 hr1 I
    refine ⟨⟨by omega, by omega⟩, ⟨by omega, by omega⟩, ?_⟩
    refine ⟨fun c20 => ?_, fun c20 => ?_⟩
    · exact hK97 _ I F
    · refine ⟨((8 - 0 : Int).toNat + 1), k_DayRun_passDry_l15 (l4 := l4) hr1 ⟨by omega, by omega⟩ (fun g15 I_9 F_10 => ?_) hQ ((8 - 0 : Int).toNat + 1) I F ⟨by omega, by omega⟩ (by omega)⟩
      exact k_DayRun_passDry_b69 hr1 I_9 F_10 ⟨by omega, by omega⟩ (n : Int) (by omega) (fun _ _ I F b0 hm => k_DayRun_passDry_l3 hr1 hK97 hQ n I F b0 hm) hK97 hQ
set_option maxRecDepth 100000 in
set_option maxHeartbeats 4000000 in
theorem k_DayRun_passDry {r1 : Nat} (hr1 : zs_sh r1 = some (10, 20)) {g : zi_M} {Q : Int → zi_M → Prop} (I : zk_I g) (hQ : ∀ g' : zi_M, zk_I g' → zk_fr (fr_DayRun_passDry r1) g g' → Q 0 g') : w_DayRun_passDry r1 g Q := by
  unfold w_DayRun_passDry
  refine ⟨((10 - 0 : Int).toNat + 1), k_DayRun_passDry_l3 hr1 (fun g21 I_15 F_16 => ?_) hQ ((10 - 0 : Int).toNat + 1) I (zk_f0 _) ⟨by omega, by omega⟩ (by omega)⟩
  exact hQ _ I_15 F_16
