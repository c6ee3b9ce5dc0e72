-- by program (wip/gen/mkz.py)
-- SpoutNewsModel.act(III)Z
def fr_M_act (a : Nat) (i : Int) : Prop := a = 215 ∨ a = 216 ∨ (a = 214 ∧ i = 0) ∨ (a = 214 ∧ i = 3)
set_option maxRecDepth 100000 in
set_option maxHeartbeats 400000 in
theorem k_M_act {l1 : Int} {l2 : Int} {l3 : Int} {g : zi_M} {Q : Int → zi_M → Prop} (I : zk_I g) (p1 : (-2147483648) ≤ l1 ∧ l1 ≤ 2147483647) (p2 : (-2147483648) ≤ l2 ∧ l2 ≤ 2147483647) (p3 : (-2147483648) ≤ l3 ∧ l3 ≤ 2147483647) (hQ : ∀ (v : Int) (g' : zi_M), zk_I g' → zk_fr fr_M_act g g' → (0 ≤ v ∧ v ≤ 1) → Q v g') : w_M_act l1 l2 l3 g Q := by
  unfold w_M_act
  intro g1 e_1
  have I_2 : zk_I g1 := by rw [e_1]; exact zk_upd (L := (-2147483648)) (H := 2147483647) rfl rfl I ⟨by omega, by omega⟩
  have F_3 : zk_fr fr_M_act g g1 := by rw [e_1]; exact zk_fu (zk_f0 _) (Or.inr (Or.inr (Or.inl ⟨rfl, rfl⟩)))
  refine k_M_canAct I_2 ⟨by omega, by omega⟩ ⟨by omega, by omega⟩ ⟨by omega, by omega⟩ (fun v2 b_4 b_5 b_6 b_7 b_8 b_9 b_10 => ?_)
  refine ⟨fun c11 => ?_, fun c11 => ?_⟩
  · refine k_M_keepsAhead I_2 (fun g6 I_11 F_12 => ?_)
    have F_13 : zk_fr fr_M_act g g6 := zk_ft F_3 F_12 (fun a i => (fun h => Or.elim h (fun h => (Or.inr (Or.inl h))) (fun h => (Or.inr (Or.inr (Or.inr h))))))
    refine k_M_acts I_11 ⟨by omega, by omega⟩ ⟨by omega, by omega⟩ ⟨by omega, by omega⟩ (by omega) (by omega) (by omega) (by omega) (by omega) (by omega) (fun g9 I_14 F_15 => ?_)
    have F_16 : zk_fr fr_M_act g g9 := zk_ft F_13 F_15 (fun a i => (fun h => (Or.inl h)))
    exact hQ _ _ I_14 F_16 ⟨by omega, by omega⟩
  · exact hQ _ _ I_2 F_3 ⟨by omega, by omega⟩
-- SpoutNews$Texts.rainOn(I)I
set_option maxRecDepth 100000 in
set_option maxHeartbeats 400000 in
theorem k_Texts_rainOn_l2 {g : zi_M} (I : zk_I g) {l1 : Int} {K20 : Int → zi_M → Prop} {K33 : zi_M → Prop} {Q : Int → zi_M → Prop} (q1 : (-2147483648) ≤ l1 ∧ l1 ≤ 2147483647) (hK20 : ∀ (k2 : Int), (0 ≤ k2 ∧ k2 ≤ 15) → K20 k2 g) (hK33 : K33 g) (hQ : ∀ v : Int, ((-1) ≤ v ∧ v ≤ 9) → Q v g) : ∀ (n : Nat) {l2 : Int}, (0 ≤ l2 ∧ l2 ≤ 16) → 16 - l2 < (n : Int) → w_Texts_rainOn_l2 l1 K20 K33 Q n l2 g
  | 0, l2, b0, hm => by exfalso; omega
  | n + 1, l2, b0, hm => by
    unfold w_Texts_rainOn_l2
    have m_1 : 0 ≤ (g 19 5) ∧ (g 19 5) ≤ 16 := I 19 5
    refine ⟨⟨by omega, by omega⟩, ⟨by omega, by omega⟩, ?_⟩
    refine ⟨fun c7 => ?_, fun c7 => ?_⟩
    · exact hK33
    · refine ⟨⟨by omega, by omega⟩, ?_⟩
      have m_2 : (-2147483648) ≤ (g 30 l2) ∧ (g 30 l2) ≤ 2147483647 := I 30 l2
      refine ⟨⟨by omega, by omega⟩, ⟨by omega, by omega⟩, ?_⟩
      refine ⟨fun c6 => ?_, fun c6 => ?_⟩
      · exact k_Texts_rainOn_l2 I q1 hK20 hK33 hQ n ⟨by omega, by omega⟩ (by omega)
      · exact hK20 _ ⟨by omega, by omega⟩
set_option maxRecDepth 100000 in
set_option maxHeartbeats 400000 in
theorem k_Texts_rainOn {l1 : Int} {g : zi_M} {Q : Int → zi_M → Prop} (I : zk_I g) (p1 : (-2147483648) ≤ l1 ∧ l1 ≤ 2147483647) (hQ : ∀ v : Int, ((-1) ≤ v ∧ v ≤ 9) → Q v g) : w_Texts_rainOn l1 g Q := by
  unfold w_Texts_rainOn
  refine ⟨((16 - 0 : Int).toNat + 1), k_Texts_rainOn_l2 (l1 := l1) I ⟨by omega, by omega⟩ (fun k8 b_3 => ?_) (?_) hQ ((16 - 0 : Int).toNat + 1) ⟨by omega, by omega⟩ (by omega)⟩
  · refine ⟨⟨by omega, by omega⟩, ?_⟩
    have m_4 : 0 ≤ (g 31 k8) ∧ (g 31 k8) ≤ 9 := I 31 k8
    exact hQ _ ⟨by omega, by omega⟩
  · exact hQ _ ⟨by omega, by omega⟩
-- SpoutNews$World.speaks(I)Z
set_option maxRecDepth 100000 in
set_option maxHeartbeats 400000 in
theorem k_World_speaks {r0 : Nat} (hr0 : zs_sh r0 = some (10, 20)) {l1 : Int} {g : zi_M} {Q : Int → zi_M → Prop} (I : zk_I g) (p1 : 0 ≤ l1 ∧ l1 ≤ 9) (hQ : ∀ v : Int, ((g (r0 + 4) l1) = 0 → v = 1) → (¬ (g (r0 + 4) l1) = 0 → ¬ (g (r0 + 4) l1) = 1 → v = 0) → (¬ (g (r0 + 4) l1) = 0 → (g (r0 + 4) l1) = 1 → (g r0 14) < 5 → v = 0) → (¬ (g (r0 + 4) l1) = 0 → (g (r0 + 4) l1) = 1 → 5 ≤ (g r0 14) → v = 1) → Q v g) : w_World_speaks r0 l1 g Q := by
  unfold w_World_speaks
  refine ⟨⟨by omega, by omega⟩, ?_⟩
  have m_1 := zk_a10_4 hr0 I l1
  refine ⟨⟨by omega, by omega⟩, ?_⟩
  refine ⟨fun c6 => ?_, fun c6 => ?_⟩
  · have m_2 := zk_c10_14 hr0 I
    exact hQ _ (by intros; omega) (by intros; omega) (by intros; omega) (by intros; omega)
  · refine ⟨fun c5 => ?_, fun c5 => ?_⟩
    · have m_3 := zk_c10_14 hr0 I
      exact hQ _ (by intros; omega) (by intros; omega) (by intros; omega) (by intros; omega)
    · have m_4 := zk_c10_14 hr0 I
      refine ⟨⟨by omega, by omega⟩, ?_⟩
      refine ⟨fun c4 => ?_, fun c4 => ?_⟩
      · exact hQ _ (by intros; omega) (by intros; omega) (by intros; omega) (by intros; omega)
      · exact hQ _ (by intros; omega) (by intros; omega) (by intros; omega) (by intros; omega)
-- SpoutNews$Law.gatherFacts(LSpoutNews$World;II)V
def fr_Law_gatherFacts (r1 : Nat) (a : Nat) (i : Int) : Prop := a = 28
set_option maxRecDepth 100000 in
set_option maxHeartbeats 400000 in
theorem k_Law_gatherFacts {r1 : Nat} (hr1 : zs_sh r1 = some (10, 20)) {l2 : Int} {l3 : Int} {g : zi_M} {Q : Int → zi_M → Prop} (I : zk_I g) (p2 : 0 ≤ l2 ∧ l2 ≤ 9) (p3 : 0 ≤ l3 ∧ l3 ≤ 15) (hQ : ∀ g' : zi_M, zk_I g' → zk_fr (fr_Law_gatherFacts r1) g g' → Q 0 g') : w_Law_gatherFacts r1 l2 l3 g Q := by
  unfold w_Law_gatherFacts
  refine ⟨⟨by omega, by omega⟩, ?_⟩
  have m_4 := zk_a10_1 hr1 I l2
  intro g2 e_1
  have I_2 : zk_I g2 := by rw [e_1]; exact zk_upd (L := (-2147483648)) (H := 2147483647) rfl rfl I ⟨by omega, by omega⟩
  have F_3 : zk_fr (fr_Law_gatherFacts r1) g g2 := by rw [e_1]; exact zk_fu (zk_f0 _) rfl
  have m_8 := zk_a10_2 hr1 I_2 l2
  intro g3 e_5
  have I_6 : zk_I g3 := by rw [e_5]; exact zk_upd (L := (-2147483648)) (H := 2147483647) rfl rfl I_2 ⟨by omega, by omega⟩
  have F_7 : zk_fr (fr_Law_gatherFacts r1) g g3 := by rw [e_5]; exact zk_fu F_3 rfl
  have m_12 := zk_a10_3 hr1 I_6 l2
  intro g4 e_9
  have I_10 : zk_I g4 := by rw [e_9]; exact zk_upd (L := (-2147483648)) (H := 2147483647) rfl rfl I_6 ⟨by omega, by omega⟩
  have F_11 : zk_fr (fr_Law_gatherFacts r1) g g4 := by rw [e_9]; exact zk_fu F_7 rfl
  have m_16 := zk_a10_4 hr1 I_10 l2
  intro g5 e_13
  have I_14 : zk_I g5 := by rw [e_13]; exact zk_upd (L := (-2147483648)) (H := 2147483647) rfl rfl I_10 ⟨by omega, by omega⟩
  have F_15 : zk_fr (fr_Law_gatherFacts r1) g g5 := by rw [e_13]; exact zk_fu F_11 rfl
  have m_20 := zk_c10_14 hr1 I_14
  intro g6 e_17
  have I_18 : zk_I g6 := by rw [e_17]; exact zk_upd (L := (-2147483648)) (H := 2147483647) rfl rfl I_14 ⟨by omega, by omega⟩
  have F_19 : zk_fr (fr_Law_gatherFacts r1) g g6 := by rw [e_17]; exact zk_fu F_15 rfl
  have m_24 := zk_a10_6 hr1 I_18 l2
  intro g7 e_21
  have I_22 : zk_I g7 := by rw [e_21]; exact zk_upd (L := (-2147483648)) (H := 2147483647) rfl rfl I_18 ⟨by omega, by omega⟩
  have F_23 : zk_fr (fr_Law_gatherFacts r1) g g7 := by rw [e_21]; exact zk_fu F_19 rfl
  have m_28 := zk_a10_5 hr1 I_22 l2
  intro g8 e_25
  have I_26 : zk_I g8 := by rw [e_25]; exact zk_upd (L := (-2147483648)) (H := 2147483647) rfl rfl I_22 ⟨by omega, by omega⟩
  have F_27 : zk_fr (fr_Law_gatherFacts r1) g g8 := by rw [e_25]; exact zk_fu F_23 rfl
  intro g9 e_29
  have I_30 : zk_I g9 := by rw [e_29]; exact zk_upd (L := (-2147483648)) (H := 2147483647) rfl rfl I_26 ⟨by omega, by omega⟩
  have F_31 : zk_fr (fr_Law_gatherFacts r1) g g9 := by rw [e_29]; exact zk_fu F_27 rfl
  have m_35 := zk_c10_17 hr1 I_30
  intro g10 e_32
  have I_33 : zk_I g10 := by rw [e_32]; exact zk_upd (L := (-2147483648)) (H := 2147483647) rfl rfl I_30 ⟨by omega, by omega⟩
  have F_34 : zk_fr (fr_Law_gatherFacts r1) g g10 := by rw [e_32]; exact zk_fu F_31 rfl
  exact hQ _ I_33 F_34
-- SpoutNews$Law.joined(III)I
set_option maxRecDepth 100000 in
set_option maxHeartbeats 400000 in
theorem k_Law_joined {l0 : Int} {l1 : Int} {l2 : Int} {g : zi_M} {Q : Int → zi_M → Prop} (I : zk_I g) (p0 : (-2147483648) ≤ l0 ∧ l0 ≤ 2147483647) (p1 : (-2147483648) ≤ l1 ∧ l1 ≤ 2147483647) (p2 : (-2147483648) ≤ l2 ∧ l2 ≤ 2147483647) (hQ : ∀ v : Int, ((-2147483648) ≤ v ∧ v ≤ 2147483647) → Q v g) : w_Law_joined l0 l1 l2 g Q := by
  unfold w_Law_joined
  refine ⟨⟨by omega, by omega⟩, ?_⟩
  refine ⟨fun c2 => ?_, fun c2 => ?_, fun c2 => ?_, fun c2 => ?_, fun c2 => ?_, fun c2 => ?_, fun c2 => ?_, fun c2 => ?_, fun c2 => ?_, fun c2 => ?_⟩
  · have m_1 := zi_or_f l1 l2
    exact hQ _ ⟨by omega, by omega⟩
  · have m_2 := zi_r_w (l1 + l2)
    exact hQ _ ⟨by omega, by omega⟩
  · have m_3 := zi_r_w (l1 - l2)
    exact hQ _ ⟨by omega, by omega⟩
  · have m_4 := zi_r_w (l1 * l2)
    exact hQ _ ⟨by omega, by omega⟩
  · have m_5 := zi_or_f l1 l2
    exact hQ _ ⟨by omega, by omega⟩
  · refine ⟨⟨by omega, by omega⟩, ⟨by omega, by omega⟩, ?_⟩
    refine ⟨fun c5 => ?_, fun c5 => ?_⟩
    · exact hQ _ ⟨by omega, by omega⟩
    · exact hQ _ ⟨by omega, by omega⟩
  · refine ⟨⟨by omega, by omega⟩, ⟨by omega, by omega⟩, ?_⟩
    refine ⟨fun c8 => ?_, fun c8 => ?_⟩
    · exact hQ _ ⟨by omega, by omega⟩
    · exact hQ _ ⟨by omega, by omega⟩
  · refine ⟨⟨by omega, by omega⟩, ⟨by omega, by omega⟩, ?_⟩
    refine ⟨fun c11 => ?_, fun c11 => ?_⟩
    · exact hQ _ ⟨by omega, by omega⟩
    · exact hQ _ ⟨by omega, by omega⟩
  · have m_6 := zi_or_f l1 l2
    exact hQ _ ⟨by omega, by omega⟩
  · have m_7 := zi_and_f l1 l2
    exact hQ _ ⟨by omega, by omega⟩
-- SpoutNews$Law.worth(II)I
def fr_Law_worth (a : Nat) (i : Int) : Prop := a = 27
set_option maxRecDepth 100000 in
set_option maxHeartbeats 400000 in
theorem k_Law_worth_l5 {l2 : Int} {K202 : Int → zi_M → Prop} {Q : Int → zi_M → Prop} {g0 : zi_M} (q2 : 0 ≤ l2 ∧ l2 ≤ 400) (hK202 : ∀ (k3 : Int) (g : zi_M), zk_I g → zk_fr fr_Law_worth g0 g → (0 ≤ k3 ∧ k3 ≤ 40) → K202 k3 g) (hQ : ∀ (v : Int) (g' : zi_M), zk_I g' → zk_fr fr_Law_worth g0 g' → ((-2147483648) ≤ v ∧ v ≤ 2147483647) → Q v g') : ∀ (n : Nat) {l3 : Int} {l4 : Int} {g : zi_M}, zk_I g → zk_fr fr_Law_worth g0 g → (0 ≤ l3 ∧ l3 ≤ 40) → (0 ≤ l4 ∧ l4 ≤ 400) → 400 - l4 < (n : Int) → w_Law_worth_l5 l2 K202 Q n l3 l4 g
  | 0, l3, l4, g, I, F, b0, b1, hm => by exfalso; omega
  | n + 1, l3, l4, g, I, F, b0, b1, hm => by
    unfold w_Law_worth_l5
    refine ⟨⟨by omega, by omega⟩, ⟨by omega, by omega⟩, ?_⟩
    refine ⟨fun c43 => ?_, fun c43 => ?_⟩
    · exact hK202 _ _ I F ⟨by omega, by omega⟩
    · refine ⟨⟨by omega, by omega⟩, ?_⟩
      have m_1 : (-2147483648) ≤ (g 21 l4) ∧ (g 21 l4) ≤ 2147483647 := I 21 l4
      refine ⟨⟨by omega, by omega⟩, ?_⟩
      refine ⟨fun c42 => ?_, fun c42 => ?_⟩
      · refine ⟨fun c26 => ?_, fun c26 => ?_⟩
        · refine ⟨fun c17 => ?_, fun c17 => ?_⟩
          · refine ⟨⟨by omega, by omega⟩, ?_⟩
            refine ⟨fun c12 => ?_, fun c12 => ?_⟩
            · exact k_Law_worth_l5 q2 hK202 hQ n I F ⟨by omega, by omega⟩ ⟨by omega, by omega⟩ (by omega)
            · refine ⟨⟨by omega, by omega⟩, ?_⟩
              refine ⟨⟨by omega, by omega⟩, ?_⟩
              have m_2 : (-2147483648) ≤ (g 27 ((l3 + (-1)) - 1)) ∧ (g 27 ((l3 + (-1)) - 1)) ≤ 2147483647 := I 27 ((l3 + (-1)) - 1)
              have m_3 : (-2147483648) ≤ (g 27 (l3 + (-1))) ∧ (g 27 (l3 + (-1))) ≤ 2147483647 := I 27 (l3 + (-1))
              refine k_Law_joined I ⟨by omega, by omega⟩ ⟨by omega, by omega⟩ ⟨by omega, by omega⟩ (fun v8 b_4 => ?_)
              intro g11 e_5
              have I_6 : zk_I g11 := by rw [e_5]; exact zk_upd (L := (-2147483648)) (H := 2147483647) rfl rfl I ⟨by omega, by omega⟩
              have F_7 : zk_fr fr_Law_worth g0 g11 := by rw [e_5]; exact zk_fu F rfl
              exact k_Law_worth_l5 q2 hK202 hQ n I_6 F_7 ⟨by omega, by omega⟩ ⟨by omega, by omega⟩ (by omega)
          · refine ⟨⟨by omega, by omega⟩, ?_⟩
            refine ⟨fun c16 => ?_, fun c16 => ?_⟩
            · exact k_Law_worth_l5 q2 hK202 hQ n I F ⟨by omega, by omega⟩ ⟨by omega, by omega⟩ (by omega)
            · refine ⟨⟨by omega, by omega⟩, ?_⟩
              have m_11 : (-2147483648) ≤ (g 27 (l3 - 1)) ∧ (g 27 (l3 - 1)) ≤ 2147483647 := I 27 (l3 - 1)
              have m_12 := zi_r_w (1 - (g 27 (l3 - 1)))
              intro g15 e_8
              have I_9 : zk_I g15 := by rw [e_8]; exact zk_upd (L := (-2147483648)) (H := 2147483647) rfl rfl I ⟨by omega, by omega⟩
              have F_10 : zk_fr fr_Law_worth g0 g15 := by rw [e_8]; exact zk_fu F rfl
              exact k_Law_worth_l5 q2 hK202 hQ n I_9 F_10 ⟨by omega, by omega⟩ ⟨by omega, by omega⟩ (by omega)
        · refine ⟨⟨by omega, by omega⟩, ?_⟩
          refine ⟨fun c25 => ?_, fun c25 => ?_⟩
          · exact k_Law_worth_l5 q2 hK202 hQ n I F ⟨by omega, by omega⟩ ⟨by omega, by omega⟩ (by omega)
          · have m_13 : 0 ≤ (g 22 l4) ∧ (g 22 l4) ≤ 9999 := I 22 l4
            refine ⟨⟨by omega, by omega⟩, ?_⟩
            refine ⟨fun c24 => ?_, fun c24 => ?_⟩
            · exact k_Law_worth_l5 q2 hK202 hQ n I F ⟨by omega, by omega⟩ ⟨by omega, by omega⟩ (by omega)
            · refine ⟨⟨by omega, by omega⟩, ?_⟩
              have m_14 : (-2147483648) ≤ (g 27 (l3 - 1)) ∧ (g 27 (l3 - 1)) ≤ 2147483647 := I 27 (l3 - 1)
              refine ⟨⟨by omega, by omega⟩, (by omega), ?_⟩
              have m_18 := zi_tdiv_f (g 27 (l3 - 1)) (g 22 l4)
              intro g23 e_15
              have I_16 : zk_I g23 := by rw [e_15]; exact zk_upd (L := (-2147483648)) (H := 2147483647) rfl rfl I ⟨by omega, by omega⟩
              have F_17 : zk_fr fr_Law_worth g0 g23 := by rw [e_15]; exact zk_fu F rfl
              exact k_Law_worth_l5 q2 hK202 hQ n I_16 F_17 ⟨by omega, by omega⟩ ⟨by omega, by omega⟩ (by omega)
      · refine ⟨⟨by omega, by omega⟩, ?_⟩
        refine ⟨fun c41 => ?_, fun c41 => ?_⟩
        · exact k_Law_worth_l5 q2 hK202 hQ n I F ⟨by omega, by omega⟩ ⟨by omega, by omega⟩ (by omega)
        · refine ⟨fun c40 => ?_, fun c40 => ?_⟩
          · refine ⟨⟨by omega, by omega⟩, ?_⟩
            have m_22 : 0 ≤ (g 22 l4) ∧ (g 22 l4) ≤ 9999 := I 22 l4
            intro g29 e_19
            have I_20 : zk_I g29 := by rw [e_19]; exact zk_upd (L := (-2147483648)) (H := 2147483647) rfl rfl I ⟨by omega, by omega⟩
            have F_21 : zk_fr fr_Law_worth g0 g29 := by rw [e_19]; exact zk_fu F rfl
            exact k_Law_worth_l5 q2 hK202 hQ n I_20 F_21 ⟨by omega, by omega⟩ ⟨by omega, by omega⟩ (by omega)
          · have m_23 : 0 ≤ (g 22 l4) ∧ (g 22 l4) ≤ 9999 := I 22 l4
            refine ⟨⟨by omega, by omega⟩, ?_⟩
            refine ⟨fun c39 => ?_, fun c39 => ?_⟩
            · refine ⟨⟨by omega, by omega⟩, ?_⟩
              intro g32 e_24
              have I_25 : zk_I g32 := by rw [e_24]; exact zk_upd (L := (-2147483648)) (H := 2147483647) rfl rfl I ⟨by omega, by omega⟩
              have F_26 : zk_fr fr_Law_worth g0 g32 := by rw [e_24]; exact zk_fu F rfl
              exact k_Law_worth_l5 q2 hK202 hQ n I_25 F_26 ⟨by omega, by omega⟩ ⟨by omega, by omega⟩ (by omega)
            · refine ⟨fun c38 => ?_, fun c38 => ?_⟩
              · refine ⟨⟨by omega, by omega⟩, ?_⟩
                refine ⟨⟨by omega, by omega⟩, ?_⟩
                have m_30 : (-2147483648) ≤ (g 28 (g 22 l4)) ∧ (g 28 (g 22 l4)) ≤ 2147483647 := I 28 (g 22 l4)
                intro g35 e_27
                have I_28 : zk_I g35 := by rw [e_27]; exact zk_upd (L := (-2147483648)) (H := 2147483647) rfl rfl I ⟨by omega, by omega⟩
                have F_29 : zk_fr fr_Law_worth g0 g35 := by rw [e_27]; exact zk_fu F rfl
                exact k_Law_worth_l5 q2 hK202 hQ n I_28 F_29 ⟨by omega, by omega⟩ ⟨by omega, by omega⟩ (by omega)
              · refine ⟨⟨by omega, by omega⟩, ?_⟩
                intro g37 e_31
                have I_32 : zk_I g37 := by rw [e_31]; exact zk_upd (L := (-2147483648)) (H := 2147483647) rfl rfl I ⟨by omega, by omega⟩
                have F_33 : zk_fr fr_Law_worth g0 g37 := by rw [e_31]; exact zk_fu F rfl
                exact k_Law_worth_l5 q2 hK202 hQ n I_32 F_33 ⟨by omega, by omega⟩ ⟨by omega, by omega⟩ (by omega)
set_option maxRecDepth 100000 in
set_option maxHeartbeats 400000 in
theorem k_Law_worth {l1 : Int} {l2 : Int} {g : zi_M} {Q : Int → zi_M → Prop} (I : zk_I g) (p1 : 0 ≤ l1 ∧ l1 ≤ 400) (p2 : 0 ≤ l2 ∧ l2 ≤ 400) (hQ : ∀ (v : Int) (g' : zi_M), zk_I g' → zk_fr fr_Law_worth g g' → ((-2147483648) ≤ v ∧ v ≤ 2147483647) → Q v g') : w_Law_worth l1 l2 g Q := by
  unfold w_Law_worth
  refine ⟨((400 - l1 : Int).toNat + 1), k_Law_worth_l5 (l2 := l2) ⟨by omega, by omega⟩ (fun k44 g45 I_34 F_35 b_36 => ?_) hQ ((400 - l1 : Int).toNat + 1) I (zk_f0 _) ⟨by omega, by omega⟩ ⟨by omega, by omega⟩ (by omega)⟩
  refine ⟨⟨by omega, by omega⟩, ?_⟩
  refine ⟨fun c47 => ?_, fun c47 => ?_⟩
  · exact hQ _ _ I_34 F_35 ⟨by omega, by omega⟩
  · have m_37 : (-2147483648) ≤ (g45 27 0) ∧ (g45 27 0) ≤ 2147483647 := I_34 27 0
    exact hQ _ _ I_34 F_35 ⟨by omega, by omega⟩
-- SpoutNews$Law.tells(ILSpoutNews$World;II)I
def fr_Law_tells (r2 : Nat) (a : Nat) (i : Int) : Prop := a = 27 ∨ a = 28
set_option maxRecDepth 100000 in
set_option maxHeartbeats 400000 in
theorem k_Law_tells_l55 {r2 : Nat} (hr2 : zs_sh r2 = some (10, 20)) {l1 : Int} {K113 : Int → zi_M → Prop} {K142 : zi_M → Prop} {Q : Int → zi_M → Prop} {g0 : zi_M} (q1 : 0 ≤ l1 ∧ l1 ≤ 2) (hK113 : ∀ (k7 : Int) (g : zi_M), zk_I g → zk_fr (fr_Law_tells r2) g0 g → (0 ≤ k7 ∧ k7 ≤ 15) → K113 k7 g) (hK142 : ∀ (g : zi_M), zk_I g → zk_fr (fr_Law_tells r2) g0 g → K142 g) (hQ : ∀ (v : Int) (g' : zi_M), zk_I g' → zk_fr (fr_Law_tells r2) g0 g' → (0 ≤ v ∧ v ≤ 1000) → Q v g') : ∀ (n : Nat) {l7 : Int} {g : zi_M}, zk_I g → zk_fr (fr_Law_tells r2) g0 g → (0 ≤ l7 ∧ l7 ≤ 16) → 16 - l7 < (n : Int) → w_Law_tells_l55 r2 l1 K113 K142 Q n l7 g
  | 0, l7, g, I, F, b0, hm => by exfalso; omega
  | n + 1, l7, g, I, F, b0, hm => by
    unfold w_Law_tells_l55
    have m_4 : 0 ≤ (g 20 7) ∧ (g 20 7) ≤ 16 := I 20 7
    refine ⟨⟨by omega, by omega⟩, ⟨by omega, by omega⟩, ?_⟩
    refine ⟨fun c20 => ?_, fun c20 => ?_⟩
    · exact hK142 _ I F
    · refine ⟨⟨by omega, by omega⟩, ?_⟩
      have m_5 : (-2147483648) ≤ (g 23 l7) ∧ (g 23 l7) ≤ 2147483647 := I 23 l7
      refine ⟨⟨by omega, by omega⟩, ⟨by omega, by omega⟩, ?_⟩
      refine ⟨fun c19 => ?_, fun c19 => ?_⟩
      · exact k_Law_tells_l55 hr2 q1 hK113 hK142 hQ n I F ⟨by omega, by omega⟩ (by omega)
      · have m_6 : 0 ≤ (g 25 l7) ∧ (g 25 l7) ≤ 400 := I 25 l7
        have m_7 : 0 ≤ (g 26 l7) ∧ (g 26 l7) ≤ 400 := I 26 l7
        refine ⟨⟨by omega, by omega⟩, ⟨by omega, by omega⟩, ?_⟩
        refine ⟨fun c18 => ?_, fun c18 => ?_⟩
        · exact hK113 _ _ I F ⟨by omega, by omega⟩
        · refine k_Law_worth I ⟨by omega, by omega⟩ ⟨by omega, by omega⟩ (fun v13 g14 I_9 F_10 b_8 => ?_)
          have F_11 : zk_fr (fr_Law_tells r2) g0 g14 := zk_ft F F_10 (fun a i => (fun h => (Or.inl h)))
          refine ⟨⟨by omega, by omega⟩, ?_⟩
          refine ⟨fun c17 => ?_, fun c17 => ?_⟩
          · exact k_Law_tells_l55 hr2 q1 hK113 hK142 hQ n I_9 F_11 ⟨by omega, by omega⟩ (by omega)
          · exact hK113 _ _ I_9 F_11 ⟨by omega, by omega⟩
set_option maxRecDepth 100000 in
set_option maxHeartbeats 400000 in
theorem k_Law_tells_b113 {r2 : Nat} (hr2 : zs_sh r2 = some (10, 20)) {l5 : Int} {l7 : Int} {Q : Int → zi_M → Prop} {g : zi_M} {g0 : zi_M} (I : zk_I g) (F : zk_fr (fr_Law_tells r2) g0 g) (p5 : 9 ≤ l5 ∧ l5 ≤ 1000) (p7 : 0 ≤ l7 ∧ l7 ≤ 15) (hQ : ∀ (v : Int) (g' : zi_M), zk_I g' → zk_fr (fr_Law_tells r2) g0 g' → (0 ≤ v ∧ v ≤ 1000) → Q v g') : w_Law_tells_b113 r2 l5 l7 g Q := by
  unfold w_Law_tells_b113
  refine ⟨⟨by omega, by omega⟩, ?_⟩
  have m_15 : 0 ≤ (g 24 l7) ∧ (g 24 l7) ≤ 400 := I 24 l7
  have m_16 : 0 ≤ (g 25 l7) ∧ (g 25 l7) ≤ 400 := I 25 l7
  refine k_Law_worth I ⟨by omega, by omega⟩ ⟨by omega, by omega⟩ (fun v24 g25 I_18 F_19 b_17 => ?_)
  have F_20 : zk_fr (fr_Law_tells r2) g0 g25 := zk_ft F F_19 (fun a i => (fun h => (Or.inl h)))
  refine ⟨⟨by omega, by omega⟩, ⟨by omega, by omega⟩, ?_⟩
  refine ⟨⟨by omega, by omega⟩, ?_⟩
  exact hQ _ _ I_18 F_20 ⟨by omega, by omega⟩
set_option maxRecDepth 100000 in
set_option maxHeartbeats 400000 in
theorem k_Law_tells_b13 {r2 : Nat} (hr2 : zs_sh r2 = some (10, 20)) {l1 : Int} {l3 : Int} {l4 : Int} {s0 : Int} {Q : Int → zi_M → Prop} {g : zi_M} {g0 : zi_M} (I : zk_I g) (F : zk_fr (fr_Law_tells r2) g0 g) (p1 : 0 ≤ l1 ∧ l1 ≤ 2) (p3 : 0 ≤ l3 ∧ l3 ≤ 9) (p4 : 0 ≤ l4 ∧ l4 ≤ 15) (ps0 : 9 ≤ s0 ∧ s0 ≤ 1000) (hQ : ∀ (v : Int) (g' : zi_M), zk_I g' → zk_fr (fr_Law_tells r2) g0 g' → (0 ≤ v ∧ v ≤ 1000) → Q v g') : w_Law_tells_b13 r2 l1 l3 l4 s0 g Q := by
  unfold w_Law_tells_b13
  refine ⟨⟨by omega, by omega⟩, ?_⟩
  refine ⟨fun c55 => ?_, fun c55 => ?_⟩
  · refine ⟨fun c45 => ?_, fun c45 => ?_⟩
    · refine k_Law_gatherFacts hr2 I ⟨by omega, by omega⟩ ⟨by omega, by omega⟩ (fun g4 I_1 F_2 => ?_)
      have F_3 : zk_fr (fr_Law_tells r2) g0 g4 := zk_ft F F_2 (fun a i => (fun h => (Or.inr h)))
      refine ⟨((16 - 0 : Int).toNat + 1), k_Law_tells_l55 (l1 := l1) hr2 ⟨by omega, by omega⟩ (fun k21 g22 I_12 F_13 b_14 => ?_) (fun g30 I_21 F_22 => ?_) hQ ((16 - 0 : Int).toNat + 1) I_1 F_3 ⟨by omega, by omega⟩ (by omega)⟩
      · exact k_Law_tells_b113 hr2 I_12 F_13 ⟨by omega, by omega⟩ ⟨by omega, by omega⟩ hQ
      · have m_23 := zk_c10_14 hr2 I
        refine ⟨⟨by omega, by omega⟩, ⟨by omega, by omega⟩, ?_⟩
        refine ⟨⟨by omega, by omega⟩, ?_⟩
        exact hQ _ _ I_21 F_22 ⟨by omega, by omega⟩
    · refine k_Law_gatherFacts hr2 I ⟨by omega, by omega⟩ ⟨by omega, by omega⟩ (fun g36 I_24 F_25 => ?_)
      have F_26 : zk_fr (fr_Law_tells r2) g0 g36 := zk_ft F F_25 (fun a i => (fun h => (Or.inr h)))
      refine ⟨((16 - 0 : Int).toNat + 1), k_Law_tells_l55 (l1 := l1) hr2 ⟨by omega, by omega⟩ (fun k38 g39 I_27 F_28 b_29 => ?_) (fun g40 I_30 F_31 => ?_) hQ ((16 - 0 : Int).toNat + 1) I_24 F_26 ⟨by omega, by omega⟩ (by omega)⟩
      · exact k_Law_tells_b113 hr2 I_27 F_28 ⟨by omega, by omega⟩ ⟨by omega, by omega⟩ hQ
      · have m_32 := zk_c10_14 hr2 I
        refine ⟨⟨by omega, by omega⟩, ⟨by omega, by omega⟩, ?_⟩
        refine ⟨⟨by omega, by omega⟩, ?_⟩
        exact hQ _ _ I_30 F_31 ⟨by omega, by omega⟩
  · refine k_Law_gatherFacts hr2 I ⟨by omega, by omega⟩ ⟨by omega, by omega⟩ (fun g47 I_33 F_34 => ?_)
    have F_35 : zk_fr (fr_Law_tells r2) g0 g47 := zk_ft F F_34 (fun a i => (fun h => (Or.inr h)))
    refine ⟨((16 - 0 : Int).toNat + 1), k_Law_tells_l55 (l1 := l1) hr2 ⟨by omega, by omega⟩ (fun k49 g50 I_36 F_37 b_38 => ?_) (fun g51 I_39 F_40 => ?_) hQ ((16 - 0 : Int).toNat + 1) I_33 F_35 ⟨by omega, by omega⟩ (by omega)⟩
    · exact k_Law_tells_b113 hr2 I_36 F_37 ⟨by omega, by omega⟩ ⟨by omega, by omega⟩ hQ
    · refine ⟨⟨by omega, by omega⟩, ?_⟩
      refine ⟨⟨by omega, by omega⟩, ?_⟩
      exact hQ _ _ I_39 F_40 ⟨by omega, by omega⟩
set_option maxRecDepth 100000 in
set_option maxHeartbeats 400000 in
theorem k_Law_tells {r2 : Nat} (hr2 : zs_sh r2 = some (10, 20)) {l1 : Int} {l3 : Int} {l4 : Int} {g : zi_M} {Q : Int → zi_M → Prop} (I : zk_I g) (p1 : 0 ≤ l1 ∧ l1 ≤ 2) (p3 : 0 ≤ l3 ∧ l3 ≤ 9) (p4 : 0 ≤ l4 ∧ l4 ≤ 15) (hQ : ∀ (v : Int) (g' : zi_M), zk_I g' → zk_fr (fr_Law_tells r2) g g' → (0 ≤ v ∧ v ≤ 1000) → Q v g') : w_Law_tells r2 l1 l3 l4 g Q := by
  unfold w_Law_tells
  refine ⟨⟨by omega, by omega⟩, ?_⟩
  refine ⟨fun c56 => ?_, fun c56 => ?_⟩
  · exact k_Law_tells_b13 hr2 I (zk_f0 _) ⟨by omega, by omega⟩ ⟨by omega, by omega⟩ ⟨by omega, by omega⟩ ⟨by omega, by omega⟩ hQ
  · exact k_Law_tells_b13 hr2 I (zk_f0 _) ⟨by omega, by omega⟩ ⟨by omega, by omega⟩ ⟨by omega, by omega⟩ ⟨by omega, by omega⟩ hQ
-- SpoutNews$World.wordAt(II)I
set_option maxRecDepth 100000 in
set_option maxHeartbeats 400000 in
theorem k_World_wordAt {r0 : Nat} (hr0 : zs_sh r0 = some (10, 20)) {l1 : Int} {l2 : Int} {g : zi_M} {Q : Int → zi_M → Prop} (I : zk_I g) (p1 : (-2147483648) ≤ l1 ∧ l1 ≤ 2147483647) (p2 : 0 ≤ l2 ∧ l2 ≤ 19) (hQ : ∀ v : Int, (l1 < 0 → v = 0) → (0 ≤ l1 → (g r0 8) ≤ l1 → v = 0) → (0 ≤ l1 → l1 < (g r0 8) → l2 < 0 → v = 0) → (0 ≤ l1 → l1 < (g r0 8) → 0 ≤ l2 → 20 ≤ l2 → v = 0) → (0 ≤ l1 → l1 < (g r0 8) → 0 ≤ l2 → l2 < 20 → v = g (r0 + 7) ((l1 * 20) + l2)) → Q v g) : w_World_wordAt r0 l1 l2 g Q := by
  unfold w_World_wordAt
  have m_4 := zk_c10_8 hr0 I
  refine k_World_isSpout hr0 I ⟨by omega, by omega⟩ (fun v1 b_1 b_2 b_3 => ?_)
  refine ⟨fun c8 => ?_, fun c8 => ?_⟩
  · have m_5 := zk_a10_7 hr0 I ((l1 * 20) + l2)
    exact hQ _ (by intros; omega) (by intros; omega) (by intros; omega) (by intros; omega) (by intros; omega)
  · refine ⟨⟨by omega, by omega⟩, ?_⟩
    refine ⟨fun c7 => ?_, fun c7 => ?_⟩
    · have m_6 := zk_a10_7 hr0 I ((l1 * 20) + l2)
      exact hQ _ (by intros; omega) (by intros; omega) (by intros; omega) (by intros; omega) (by intros; omega)
    · refine ⟨fun c6 => ?_, fun c6 => ?_⟩
      · have m_7 := zk_a10_7 hr0 I ((l1 * 20) + l2)
        exact hQ _ (by intros; omega) (by intros; omega) (by intros; omega) (by intros; omega) (by intros; omega)
      · refine ⟨⟨by omega, by omega⟩, ?_⟩
        have m_8 := zk_a10_7 hr0 I ((l1 * 20) + l2)
        exact hQ _ (by intros; omega) (by intros; omega) (by intros; omega) (by intros; omega) (by intros; omega)
-- SpoutNews$World.slips(I)Z
def fr_World_slips (r0 : Nat) (a : Nat) (i : Int) : Prop := (a = r0 ∧ i = 18)
set_option maxRecDepth 100000 in
set_option maxHeartbeats 400000 in
theorem k_World_slips {r0 : Nat} (hr0 : zs_sh r0 = some (10, 20)) {l1 : Int} {g : zi_M} {Q : Int → zi_M → Prop} (I : zk_I g) (p1 : 0 ≤ l1 ∧ l1 ≤ 1000) (hQ : ∀ (v : Int) (g' : zi_M), zk_I g' → zk_fr (fr_World_slips r0) g g' → (0 ≤ v ∧ v ≤ 1) → Q v g') : w_World_slips r0 l1 g Q := by
  unfold w_World_slips
  have m_1 := zk_c10_0 hr0 I
  refine ⟨⟨by omega, by omega⟩, ?_⟩
  refine ⟨fun c8 => ?_, fun c8 => ?_⟩
  · have m_5 := zk_c10_18 hr0 I
    have m_6 := zi_r_w ((1664525 * (g r0 18)) + 1013904223)
    intro g2 e_2
    have I_3 : zk_I g2 := by rw [e_2]; exact zk_upd (zk_lc10_18 hr0).1 (zk_lc10_18 hr0).2 I ⟨by omega, by omega⟩
    have F_4 : zk_fr (fr_World_slips r0) g g2 := by rw [e_2]; exact zk_fu (zk_f0 _) ⟨rfl, rfl⟩
    have m_7 := zk_c10_18 hr0 I_3
    have m_8 : g2 r0 18 = zi_w ((1664525 * (g r0 18)) + 1013904223) := by rw [e_2]; exact zi_u_eq
    have m_9 := zi_ush_f (g2 r0 18) 8
    have m_10 := zi_tmod_f (zi_ush (g2 r0 18) 8) 1000
    have m_11 := zi_tmod_c (zi_ush (g2 r0 18) 8) 1000 (by decide)
    refine ⟨⟨by omega, by omega⟩, ⟨by omega, by omega⟩, ?_⟩
    refine ⟨fun c5 => ?_, fun c5 => ?_⟩
    · exact hQ _ _ I_3 F_4 ⟨by omega, by omega⟩
    · exact hQ _ _ I_3 F_4 ⟨by omega, by omega⟩
  · refine ⟨⟨by omega, by omega⟩, ?_⟩
    refine ⟨fun c7 => ?_, fun c7 => ?_⟩
    · exact hQ _ _ I (zk_f0 _) ⟨by omega, by omega⟩
    · exact hQ _ _ I (zk_f0 _) ⟨by omega, by omega⟩
-- SpoutNews$World.fillJarsAt(II)V
def fr_World_fillJarsAt (r0 : Nat) (a : Nat) (i : Int) : Prop := a = r0 + 11
set_option maxRecDepth 100000 in
set_option maxHeartbeats 400000 in
theorem k_World_fillJarsAt_l2 {r0 : Nat} (hr0 : zs_sh r0 = some (10, 20)) {l1 : Int} {l2 : Int} {K36 : zi_M → Prop} {Q : Int → zi_M → Prop} {g0 : zi_M} (q1 : 0 ≤ l1 ∧ l1 ≤ 9) (q2 : 0 ≤ l2 ∧ l2 ≤ 15) (hK36 : ∀ (g : zi_M), zk_I g → zk_fr (fr_World_fillJarsAt r0) g0 g → K36 g) (hQ : ∀ g' : zi_M, zk_I g' → zk_fr (fr_World_fillJarsAt r0) g0 g' → Q 0 g') : ∀ (n : Nat) {l3 : Int} {g : zi_M}, zk_I g → zk_fr (fr_World_fillJarsAt r0) g0 g → (0 ≤ l3 ∧ l3 ≤ 6) → 6 - l3 < (n : Int) → w_World_fillJarsAt_l2 r0 l1 l2 K36 Q n l3 g
  | 0, l3, g, I, F, b0, hm => by exfalso; omega
  | n + 1, l3, g, I, F, b0, hm => by
    unfold w_World_fillJarsAt_l2
    refine ⟨⟨by omega, by omega⟩, ?_⟩
    refine ⟨fun c7 => ?_, fun c7 => ?_⟩
    · exact hK36 _ I F
    · refine ⟨⟨by omega, by omega⟩, ?_⟩
      have m_1 := zk_a10_10 hr0 I l3
      refine ⟨⟨by omega, by omega⟩, ⟨by omega, by omega⟩, ?_⟩
      refine ⟨fun c6 => ?_, fun c6 => ?_⟩
      · exact k_World_fillJarsAt_l2 hr0 q1 q2 hK36 hQ n I F ⟨by omega, by omega⟩ (by omega)
      · have m_5 := zk_a10_11 hr0 I l3
        have m_6 := zi_shl_f l2
        have m_7 := zi_or_f (g (r0 + 11) l3) (zi_shl 1 l2)
        intro g5 e_2
        have I_3 : zk_I g5 := by rw [e_2]; exact zk_upd (zk_la10_11 hr0).1 (zk_la10_11 hr0).2 I ⟨by omega, by omega⟩
        have F_4 : zk_fr (fr_World_fillJarsAt r0) g0 g5 := by rw [e_2]; exact zk_fu F rfl
        exact k_World_fillJarsAt_l2 hr0 q1 q2 hK36 hQ n I_3 F_4 ⟨by omega, by omega⟩ (by omega)
set_option maxRecDepth 100000 in
set_option maxHeartbeats 400000 in
theorem k_World_fillJarsAt {r0 : Nat} (hr0 : zs_sh r0 = some (10, 20)) {l1 : Int} {l2 : Int} {g : zi_M} {Q : Int → zi_M → Prop} (I : zk_I g) (p1 : 0 ≤ l1 ∧ l1 ≤ 9) (p2 : 0 ≤ l2 ∧ l2 ≤ 15) (hQ : ∀ g' : zi_M, zk_I g' → zk_fr (fr_World_fillJarsAt r0) g g' → Q 0 g') : w_World_fillJarsAt r0 l1 l2 g Q := by
  unfold w_World_fillJarsAt
  refine ⟨((6 - 0 : Int).toNat + 1), k_World_fillJarsAt_l2 (l1 := l1) (l2 := l2) hr0 ⟨by omega, by omega⟩ ⟨by omega, by omega⟩ (fun g8 I_8 F_9 => ?_) hQ ((6 - 0 : Int).toNat + 1) I (zk_f0 _) ⟨by omega, by omega⟩ (by omega)⟩
  exact hQ _ I_8 F_9
-- SpoutNews$Book.write(LSpoutNews$World;III)V
def fr_Book_write (r1 : Nat) (a : Nat) (i : Int) : Prop := a = 15 ∨ a = 16 ∨ a = 17 ∨ a = 18 ∨ (a = r1 ∧ i = 19)
set_option maxRecDepth 100000 in
set_option maxHeartbeats 400000 in
theorem k_Book_write {r1 : Nat} (hr1 : zs_sh r1 = some (10, 20)) {l2 : Int} {l3 : Int} {l4 : Int} {g : zi_M} {Q : Int → zi_M → Prop} (I : zk_I g) (p2 : 0 ≤ l2 ∧ l2 ≤ 2) (p3 : 0 ≤ l3 ∧ l3 ≤ 9) (p4 : 0 ≤ l4 ∧ l4 ≤ 15) (hQ : ∀ g' : zi_M, zk_I g' → zk_fr (fr_Book_write r1) g g' → Q 0 g') : w_Book_write r1 l2 l3 l4 g Q := by
  unfold w_Book_write
  have m_1 := zk_c10_0 hr1 I
  refine ⟨⟨by omega, by omega⟩, ?_⟩
  refine ⟨fun c10 => ?_, fun c10 => ?_⟩
  · exact hQ _ I (zk_f0 _)
  · have m_2 := zk_c10_19 hr1 I
    refine ⟨⟨by omega, by omega⟩, ?_⟩
    refine ⟨fun c9 => ?_, fun c9 => ?_⟩
    · refine ⟨⟨by omega, by omega⟩, ?_⟩
      have m_6 := zk_c10_17 hr1 I
      intro g4 e_3
      have I_4 : zk_I g4 := by rw [e_3]; exact zk_upd (L := (-2147483648)) (H := 2147483647) rfl rfl I ⟨by omega, by omega⟩
      have F_5 : zk_fr (fr_Book_write r1) g g4 := by rw [e_3]; exact zk_fu (zk_f0 _) (Or.inl rfl)
      intro g5 e_7
      have I_8 : zk_I g5 := by rw [e_7]; exact zk_upd (L := (-2147483648)) (H := 2147483647) rfl rfl I_4 ⟨by omega, by omega⟩
      have F_9 : zk_fr (fr_Book_write r1) g g5 := by rw [e_7]; exact zk_fu F_5 (Or.inr (Or.inl rfl))
      intro g6 e_10
      have I_11 : zk_I g6 := by rw [e_10]; exact zk_upd (L := (-2147483648)) (H := 2147483647) rfl rfl I_8 ⟨by omega, by omega⟩
      have F_12 : zk_fr (fr_Book_write r1) g g6 := by rw [e_10]; exact zk_fu F_9 (Or.inr (Or.inr (Or.inl rfl)))
      intro g7 e_13
      have I_14 : zk_I g7 := by rw [e_13]; exact zk_upd (L := (-2147483648)) (H := 2147483647) rfl rfl I_11 ⟨by omega, by omega⟩
      have F_15 : zk_fr (fr_Book_write r1) g g7 := by rw [e_13]; exact zk_fu F_12 (Or.inr (Or.inr (Or.inr (Or.inl rfl))))
      intro g8 e_16
      have I_17 : zk_I g8 := by rw [e_16]; exact zk_upd (zk_lc10_19 hr1).1 (zk_lc10_19 hr1).2 I_14 ⟨by omega, by omega⟩
      have F_18 : zk_fr (fr_Book_write r1) g g8 := by rw [e_16]; exact zk_fu F_15 (Or.inr (Or.inr (Or.inr (Or.inr ⟨rfl, rfl⟩))))
      exact hQ _ I_17 F_18
    · exact hQ _ I (zk_f0 _)
