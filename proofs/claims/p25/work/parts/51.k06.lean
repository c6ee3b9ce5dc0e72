-- by program (wip/gen/mkz.py)
-- SpoutNewsModel.act(III)Z
set_option maxRecDepth 100000 in
set_option maxHeartbeats 4000000 in
theorem k_M_act {l1 : Int} {l2 : Int} {l3 : Int} {g : zi_M} {Q : Int → zi_M → Prop} (I : zk_I g) (p1 : (-2147483648) ≤ l1 ∧ l1 ≤ 2147483647) (p2 : (-2147483648) ≤ l2 ∧ l2 ≤ 2147483647) (p3 : (-2147483648) ≤ l3 ∧ l3 ≤ 2147483647) (hQ : ∀ (v : Int) (g' : zi_M), zk_I g' → zk_fr fr_M_act g g' → (0 ≤ v ∧ v ≤ 1) → (zPa (g 214 6) (g 214 7) l1 l2 l3 → v = 1) → (¬ zPa (g 214 6) (g 214 7) l1 l2 l3 → v = 0) → (zPa (g 214 6) (g 214 7) l1 l2 l3 → zAm l1 l2 l3 g g') → (¬ zPa (g 214 6) (g 214 7) l1 l2 l3 → ∃ x : Int, g' = zi_u g 214 0 x) → Q v g') : w_M_act l1 l2 l3 g Q := by
  unfold w_M_act
  intro g1 e_1
  have I_2 : zk_I g1 := by rw [e_1]; exact zk_upd (L := (-2147483648)) (H := 2147483647) rfl rfl I ⟨by omega, by omega⟩
  have F_3 : zk_fr fr_M_act g g1 := by rw [e_1]; exact zk_fu (zk_f0 _) (Or.inr (Or.inl ⟨rfl, rfl⟩))
  have m_4 : 0 ≤ (g1 214 6) ∧ (g1 214 6) ≤ 10 := I_2.1 214 6
  have m_5 : g1 214 6 = g 214 6 := by rw [e_1]; exact zi_u_ni (by decide)
  have m_6 : 0 ≤ (g 214 6) ∧ (g 214 6) ≤ 10 := I.1 214 6
  have m_7 : 0 ≤ (g1 214 7) ∧ (g1 214 7) ≤ 8 := I_2.1 214 7
  have m_8 : g1 214 7 = g 214 7 := by rw [e_1]; exact zi_u_ni (by decide)
  have m_9 : 0 ≤ (g 214 7) ∧ (g 214 7) ≤ 8 := I.1 214 7
  refine k_M_canAct I_2 ⟨by omega, by omega⟩ ⟨by omega, by omega⟩ ⟨by omega, by omega⟩ (fun v2 b_10 b_11 b_12 b_13 b_14 b_15 b_16 b_17 b_18 => ?_)
  refine ⟨fun c11 => ?_, fun c11 => ?_⟩
  · refine k_M_keepsAhead I_2 (fun g6 I_20 F_21 b_19 => ?_)
    have F_22 : zk_fr fr_M_act g g6 := zk_ft F_3 F_21 (fun a i => (fun h => Or.elim h (fun h => (Or.inl h)) (fun h => (Or.inr (Or.inr (Or.inl h))))))
    refine k_M_acts I_20 ⟨by omega, by omega⟩ ⟨by omega, by omega⟩ ⟨by omega, by omega⟩ (by omega) (by omega) (by omega) (by omega) (by omega) (by omega) (fun g9 I_24 F_25 b_23 => ?_)
    have F_26 : zk_fr fr_M_act g g9 := zk_ft F_22 F_25 (fun a i => (fun h => Or.elim h (fun h => (Or.inr (Or.inr (Or.inr (Or.inl h))))) (fun h => Or.elim h (fun h => (Or.inr (Or.inr (Or.inr (Or.inr (Or.inl h)))))) (fun h => Or.elim h (fun h => (Or.inr (Or.inr (Or.inr (Or.inr (Or.inr (Or.inl h))))))) (fun h => Or.elim h (fun h => (Or.inr (Or.inr (Or.inr (Or.inr (Or.inr (Or.inr (Or.inl h)))))))) (fun h => (Or.inr (Or.inr (Or.inr (Or.inr (Or.inr (Or.inr (Or.inr h)))))))))))))
    exact hQ _ _ I_24 F_26 ⟨by omega, by omega⟩ (by intro hv; first | rfl | exact absurd (by assumption) hv | exact zP_1 (by assumption) (by omega) (by omega) (by omega) hv | exact zP_2 (by assumption) (by omega) (by omega) (by omega) hv) (by intro hv; first | rfl | exact absurd (by assumption) hv | exact zP_1 (by assumption) (by omega) (by omega) (by omega) hv | exact zP_2 (by assumption) (by omega) (by omega) (by omega) hv) (by first | exact fun hv => zAm_of I (by assumption) (by assumption) (by assumption) (by assumption) (by assumption) hv | exact fun hv => zP_1 (by assumption) (by omega) (by omega) (by omega) hv) (by first | exact fun _ => ⟨_, by assumption⟩ | exact fun hv => zP_2 (by assumption) (by omega) (by omega) (by omega) hv)
  · exact hQ _ _ I_2 F_3 ⟨by omega, by omega⟩ (by intro hv; first | rfl | exact absurd (by assumption) hv | exact zP_1 (by assumption) (by omega) (by omega) (by omega) hv | exact zP_2 (by assumption) (by omega) (by omega) (by omega) hv) (by intro hv; first | rfl | exact absurd (by assumption) hv | exact zP_1 (by assumption) (by omega) (by omega) (by omega) hv | exact zP_2 (by assumption) (by omega) (by omega) (by omega) hv) (by first | exact fun hv => zAm_of I (by assumption) (by assumption) (by assumption) (by assumption) (by assumption) hv | exact fun hv => zP_1 (by assumption) (by omega) (by omega) (by omega) hv) (by first | exact fun _ => ⟨_, by assumption⟩ | exact fun hv => zP_2 (by assumption) (by omega) (by omega) (by omega) hv)
-- SpoutNews$Texts.rainOn(I)I
set_option maxRecDepth 100000 in
set_option maxHeartbeats 4000000 in
theorem k_Texts_rainOn_l2 {g : zi_M} (I : zk_I g) {l1 : Int} {K20 : Int → zi_M → Prop} {K33 : zi_M → Prop} {Q : Int → zi_M → Prop} (q1 : (-2147483648) ≤ l1 ∧ l1 ≤ 2147483647) (hK20 : ∀ (k2 : Int), (0 ≤ k2 ∧ k2 ≤ 15) → (k2 < g 19 5) → (g 30 k2 = l1) → (∀ k : Int, 0 ≤ k → k < k2 → ¬ g 30 k = l1) → K20 k2 g) (hK33 : (∀ k : Int, 0 ≤ k → k < g 19 5 → ¬ g 30 k = l1) → K33 g) (hQ : ∀ v : Int, ((-1) ≤ v ∧ v ≤ 9) → (zWo (g 30) (g 31) (g 19 5) l1 v) → Q v g) : ∀ (n : Nat) {l2 : Int}, (0 ≤ l2 ∧ l2 ≤ 16) → (∀ k : Int, 0 ≤ k → k < l2 → ¬ g 30 k = l1) → 16 - l2 < (n : Int) → w_Texts_rainOn_l2 l1 K20 K33 Q n l2 g
  | 0, l2, b0, b1, hm => by exfalso; omega
  | n + 1, l2, b0, b1, hm => by
    unfold w_Texts_rainOn_l2
    have m_1 : 0 ≤ (g 19 5) ∧ (g 19 5) ≤ 16 := I.1 19 5
    refine ⟨⟨by omega, by omega⟩, ⟨by omega, by omega⟩, ?_⟩
    refine ⟨fun c7 => ?_, fun c7 => ?_⟩
    · exact hK33 (by exact fun k h0 h1 => b1 k h0 (by omega))
    · refine ⟨⟨by omega, by omega⟩, ?_⟩
      have m_2 : (-2147483648) ≤ (g 30 l2) ∧ (g 30 l2) ≤ 2147483647 := I.1 30 l2
      refine ⟨⟨by omega, by omega⟩, ⟨by omega, by omega⟩, ?_⟩
      refine ⟨fun c6 => ?_, fun c6 => ?_⟩
      · exact k_Texts_rainOn_l2 I q1 hK20 hK33 hQ n ⟨by omega, by omega⟩ (by first | (intro k h0 h1; exfalso; omega) | exact zal_n b1 (by omega)) (by omega)
      · exact hK20 _ ⟨by omega, by omega⟩ (by omega) (by omega) (by assumption)
set_option maxRecDepth 100000 in
set_option maxHeartbeats 4000000 in
theorem k_Texts_rainOn {l1 : Int} {g : zi_M} {Q : Int → zi_M → Prop} (I : zk_I g) (p1 : (-2147483648) ≤ l1 ∧ l1 ≤ 2147483647) (hQ : ∀ v : Int, ((-1) ≤ v ∧ v ≤ 9) → (zWo (g 30) (g 31) (g 19 5) l1 v) → Q v g) : w_Texts_rainOn l1 g Q := by
  unfold w_Texts_rainOn
  refine ⟨((16 - 0 : Int).toNat + 1), k_Texts_rainOn_l2 (l1 := l1) I ⟨by omega, by omega⟩ (fun k8 b_3 b_4 b_5 b_6 => ?_) (fun b_8 => ?_) hQ ((16 - 0 : Int).toNat + 1) ⟨by omega, by omega⟩ (by first | (intro k h0 h1; exfalso; omega) | exact zal_n b1 (by omega)) (by omega)⟩
  · refine ⟨⟨by omega, by omega⟩, ?_⟩
    have m_7 : 0 ≤ (g 31 k8) ∧ (g 31 k8) ≤ 9 := I.1 31 k8
    exact hQ _ ⟨by omega, by omega⟩ (by first | exact zWo_a (by omega) (by omega) (by assumption) (by assumption) | exact zWo_b (by assumption) | assumption)
  · exact hQ _ ⟨by omega, by omega⟩ (by first | exact zWo_a (by omega) (by omega) (by assumption) (by assumption) | exact zWo_b (by assumption) | assumption)
-- SpoutNews$World.speaks(I)Z
set_option maxRecDepth 100000 in
set_option maxHeartbeats 4000000 in
theorem k_World_speaks {r0 : Nat} (hr0 : zs_sh r0 = some (10, 20)) {l1 : Int} {g : zi_M} {Q : Int → zi_M → Prop} (I : zk_I g) (p1 : 0 ≤ l1 ∧ l1 ≤ 9) (hQ : ∀ v : Int, ((g (r0 + 4) l1) = 0 → v = 1) → (¬ (g (r0 + 4) l1) = 0 → ¬ (g (r0 + 4) l1) = 1 → v = 0) → (¬ (g (r0 + 4) l1) = 0 → (g (r0 + 4) l1) = 1 → (g r0 14) < 5 → v = 0) → (¬ (g (r0 + 4) l1) = 0 → (g (r0 + 4) l1) = 1 → 5 ≤ (g r0 14) → v = 1) → Q v g) : w_World_speaks r0 l1 g Q := by
  unfold w_World_speaks
  refine ⟨⟨by omega, by omega⟩, ?_⟩
  have m_1 := zk_a10_4 hr0 I l1
  refine ⟨⟨by omega, by omega⟩, ?_⟩
  refine ⟨fun c6 => ?_, fun c6 => ?_⟩
  · have m_2 := zk_c10_14 hr0 I
    exact hQ _ (by intros; omega) (by intros; omega) (by intros; omega) (by intros; omega)
  · refine ⟨fun c5 => ?_, fun c5 => ?_⟩
    · have m_3 := zk_c10_14 hr0 I
      exact hQ _ (by intros; omega) (by intros; omega) (by intros; omega) (by intros; omega)
    · have m_4 := zk_c10_14 hr0 I
      refine ⟨⟨by omega, by omega⟩, ?_⟩
      refine ⟨fun c4 => ?_, fun c4 => ?_⟩
      · exact hQ _ (by intros; omega) (by intros; omega) (by intros; omega) (by intros; omega)
      · exact hQ _ (by intros; omega) (by intros; omega) (by intros; omega) (by intros; omega)
-- SpoutNews$Law.gatherFacts(LSpoutNews$World;II)V
set_option maxRecDepth 100000 in
set_option maxHeartbeats 4000000 in
theorem k_Law_gatherFacts {r1 : Nat} (hr1 : zs_sh r1 = some (10, 20)) {l2 : Int} {l3 : Int} {g : zi_M} {Q : Int → zi_M → Prop} (I : zk_I g) (p2 : 0 ≤ l2 ∧ l2 ≤ 9) (p3 : 0 ≤ l3 ∧ l3 ≤ 15) (hQ : ∀ g' : zi_M, zk_I g' → zk_fr (fr_Law_gatherFacts r1) g g' → (∀ T n : Int, 0 ≤ n → n < 9 → g' 28 n = zfct (g (r1 + 1)) (g (r1 + 2)) (g (r1 + 3)) (zVC T r1 g) l2 l3 n) → Q 0 g') : w_Law_gatherFacts r1 l2 l3 g Q := by
  unfold w_Law_gatherFacts
  refine ⟨⟨by omega, by omega⟩, ?_⟩
  have m_4 := zk_a10_1 hr1 I l2
  intro g2 e_1
  have I_2 : zk_I g2 := by rw [e_1]; exact zk_upd (L := (-2147483648)) (H := 2147483647) rfl rfl I ⟨by omega, by omega⟩
  have F_3 : zk_fr (fr_Law_gatherFacts r1) g g2 := by rw [e_1]; exact zk_fu (zk_f0 _) rfl
  have m_8 := zk_a10_2 hr1 I_2 l2
  intro g3 e_5
  have I_6 : zk_I g3 := by rw [e_5]; exact zk_upd (L := (-2147483648)) (H := 2147483647) rfl rfl I_2 ⟨by omega, by omega⟩
  have F_7 : zk_fr (fr_Law_gatherFacts r1) g g3 := by rw [e_5]; exact zk_fu F_3 rfl
  have m_12 := zk_a10_3 hr1 I_6 l2
  intro g4 e_9
  have I_10 : zk_I g4 := by rw [e_9]; exact zk_upd (L := (-2147483648)) (H := 2147483647) rfl rfl I_6 ⟨by omega, by omega⟩
  have F_11 : zk_fr (fr_Law_gatherFacts r1) g g4 := by rw [e_9]; exact zk_fu F_7 rfl
  have m_16 := zk_a10_4 hr1 I_10 l2
  intro g5 e_13
  have I_14 : zk_I g5 := by rw [e_13]; exact zk_upd (L := (-2147483648)) (H := 2147483647) rfl rfl I_10 ⟨by omega, by omega⟩
  have F_15 : zk_fr (fr_Law_gatherFacts r1) g g5 := by rw [e_13]; exact zk_fu F_11 rfl
  have m_20 := zk_c10_14 hr1 I_14
  intro g6 e_17
  have I_18 : zk_I g6 := by rw [e_17]; exact zk_upd (L := (-2147483648)) (H := 2147483647) rfl rfl I_14 ⟨by omega, by omega⟩
  have F_19 : zk_fr (fr_Law_gatherFacts r1) g g6 := by rw [e_17]; exact zk_fu F_15 rfl
  have m_24 := zk_a10_6 hr1 I_18 l2
  intro g7 e_21
  have I_22 : zk_I g7 := by rw [e_21]; exact zk_upd (L := (-2147483648)) (H := 2147483647) rfl rfl I_18 ⟨by omega, by omega⟩
  have F_23 : zk_fr (fr_Law_gatherFacts r1) g g7 := by rw [e_21]; exact zk_fu F_19 rfl
  have m_28 := zk_a10_5 hr1 I_22 l2
  intro g8 e_25
  have I_26 : zk_I g8 := by rw [e_25]; exact zk_upd (L := (-2147483648)) (H := 2147483647) rfl rfl I_22 ⟨by omega, by omega⟩
  have F_27 : zk_fr (fr_Law_gatherFacts r1) g g8 := by rw [e_25]; exact zk_fu F_23 rfl
  intro g9 e_29
  have I_30 : zk_I g9 := by rw [e_29]; exact zk_upd (L := (-2147483648)) (H := 2147483647) rfl rfl I_26 ⟨by omega, by omega⟩
  have F_31 : zk_fr (fr_Law_gatherFacts r1) g g9 := by rw [e_29]; exact zk_fu F_27 rfl
  have m_35 := zk_c10_17 hr1 I_30
  intro g10 e_32
  have I_33 : zk_I g10 := by rw [e_32]; exact zk_upd (L := (-2147483648)) (H := 2147483647) rfl rfl I_30 ⟨by omega, by omega⟩
  have F_34 : zk_fr (fr_Law_gatherFacts r1) g g10 := by rw [e_32]; exact zk_fu F_31 rfl
  exact hQ _ I_33 F_34 (by exact zfc_of hr1 ⟨by omega, by omega⟩ (by assumption) (by assumption) (by assumption) (by assumption) (by assumption) (by assumption) (by assumption) (by assumption) (by assumption))
-- SpoutNews$Law.joined(III)I
set_option maxRecDepth 100000 in
set_option maxHeartbeats 4000000 in
theorem k_Law_joined {l0 : Int} {l1 : Int} {l2 : Int} {g : zi_M} {Q : Int → zi_M → Prop} (I : zk_I g) (p0 : (-2147483648) ≤ l0 ∧ l0 ≤ 2147483647) (p1 : (-2147483648) ≤ l1 ∧ l1 ≤ 2147483647) (p2 : (-2147483648) ≤ l2 ∧ l2 ≤ 2147483647) (hQ : ∀ v : Int, ((-2147483648) ≤ v ∧ v ≤ 2147483647) → (v = zjo l0 l1 l2) → Q v g) : w_Law_joined l0 l1 l2 g Q := by
  unfold w_Law_joined
  refine ⟨⟨by omega, by omega⟩, ?_⟩
  refine ⟨fun c2 => ?_, fun c2 => ?_, fun c2 => ?_, fun c2 => ?_, fun c2 => ?_, fun c2 => ?_, fun c2 => ?_, fun c2 => ?_, fun c2 => ?_, fun c2 => ?_⟩
  · first | have m_1 := (zi_or_f l1 l2).2.1 ⟨by omega, by omega, by omega, by omega⟩ | have m_1 := (zi_or_f l1 l2).2.2.1 ⟨by omega, by omega, by omega, by omega⟩ | have m_1 := (zi_or_f l1 l2).2.2.2.1 ⟨by omega, by omega, by omega, by omega⟩ | have m_1 := (zi_or_f l1 l2).2.2.2.2.1 ⟨by omega, by omega, by omega, by omega⟩ | have m_1 := (zi_or_f l1 l2).2.2.2.2.2 ⟨by omega, by omega, by omega, by omega⟩ | have m_1 := zi_r_or l1 l2
    exact hQ _ ⟨by omega, by omega⟩ (by unfold zjo; repeat (first | rw [if_pos (by omega)] | rw [if_neg (by omega)]))
  · have m_2 := zi_r_w (l1 + l2)
    exact hQ _ ⟨by omega, by omega⟩ (by unfold zjo; repeat (first | rw [if_pos (by omega)] | rw [if_neg (by omega)]))
  · have m_3 := zi_r_w (l1 - l2)
    exact hQ _ ⟨by omega, by omega⟩ (by unfold zjo; repeat (first | rw [if_pos (by omega)] | rw [if_neg (by omega)]))
  · have m_4 := zi_r_w (l1 * l2)
    exact hQ _ ⟨by omega, by omega⟩ (by unfold zjo; repeat (first | rw [if_pos (by omega)] | rw [if_neg (by omega)]))
  · first | have m_5 := (zi_or_f l1 l2).2.1 ⟨by omega, by omega, by omega, by omega⟩ | have m_5 := (zi_or_f l1 l2).2.2.1 ⟨by omega, by omega, by omega, by omega⟩ | have m_5 := (zi_or_f l1 l2).2.2.2.1 ⟨by omega, by omega, by omega, by omega⟩ | have m_5 := (zi_or_f l1 l2).2.2.2.2.1 ⟨by omega, by omega, by omega, by omega⟩ | have m_5 := (zi_or_f l1 l2).2.2.2.2.2 ⟨by omega, by omega, by omega, by omega⟩ | have m_5 := zi_r_or l1 l2
    exact hQ _ ⟨by omega, by omega⟩ (by unfold zjo; repeat (first | rw [if_pos (by omega)] | rw [if_neg (by omega)]))
  · refine ⟨⟨by omega, by omega⟩, ⟨by omega, by omega⟩, ?_⟩
    refine ⟨fun c5 => ?_, fun c5 => ?_⟩
    · exact hQ _ ⟨by omega, by omega⟩ (by unfold zjo; repeat (first | rw [if_pos (by omega)] | rw [if_neg (by omega)]))
    · exact hQ _ ⟨by omega, by omega⟩ (by unfold zjo; repeat (first | rw [if_pos (by omega)] | rw [if_neg (by omega)]))
  · refine ⟨⟨by omega, by omega⟩, ⟨by omega, by omega⟩, ?_⟩
    refine ⟨fun c8 => ?_, fun c8 => ?_⟩
    · exact hQ _ ⟨by omega, by omega⟩ (by unfold zjo; repeat (first | rw [if_pos (by omega)] | rw [if_neg (by omega)]))
    · exact hQ _ ⟨by omega, by omega⟩ (by unfold zjo; repeat (first | rw [if_pos (by omega)] | rw [if_neg (by omega)]))
  · refine ⟨⟨by omega, by omega⟩, ⟨by omega, by omega⟩, ?_⟩
    refine ⟨fun c11 => ?_, fun c11 => ?_⟩
    · exact hQ _ ⟨by omega, by omega⟩ (by unfold zjo; repeat (first | rw [if_pos (by omega)] | rw [if_neg (by omega)]))
    · exact hQ _ ⟨by omega, by omega⟩ (by unfold zjo; repeat (first | rw [if_pos (by omega)] | rw [if_neg (by omega)]))
  · first | have m_6 := (zi_or_f l1 l2).2.1 ⟨by omega, by omega, by omega, by omega⟩ | have m_6 := (zi_or_f l1 l2).2.2.1 ⟨by omega, by omega, by omega, by omega⟩ | have m_6 := (zi_or_f l1 l2).2.2.2.1 ⟨by omega, by omega, by omega, by omega⟩ | have m_6 := (zi_or_f l1 l2).2.2.2.2.1 ⟨by omega, by omega, by omega, by omega⟩ | have m_6 := (zi_or_f l1 l2).2.2.2.2.2 ⟨by omega, by omega, by omega, by omega⟩ | have m_6 := zi_r_or l1 l2
    exact hQ _ ⟨by omega, by omega⟩ (by unfold zjo; repeat (first | rw [if_pos (by omega)] | rw [if_neg (by omega)]))
  · have m_7 := zi_r_and l1 l2
    try have m_8 := (zi_and_f l1 l2).2.1 ⟨by omega, by omega⟩
    try have m_9 := (zi_and_f l1 l2).2.2 ⟨by omega, by omega⟩
    exact hQ _ ⟨by omega, by omega⟩ (by unfold zjo; repeat (first | rw [if_pos (by omega)] | rw [if_neg (by omega)]))
-- SpoutNews$Law.worth(II)I
set_option maxRecDepth 100000 in
set_option maxHeartbeats 4000000 in
theorem k_Law_worth_l5 {l1 : Int} {l2 : Int} {x1 : Int} {K202 : Int → zi_M → Prop} {Q : Int → zi_M → Prop} {g0 : zi_M} (q2 : 0 ≤ l2 ∧ l2 ≤ 400) (hK202 : ∀ (k3 : Int) (g : zi_M), zk_I g → zk_fr fr_Law_worth g0 g → (0 ≤ k3 ∧ k3 ≤ 40) → ((0 < k3 → g 27 0 = (zwo (g0 21) (g0 22) (g0 28) x1 l2)) ∧ (k3 ≤ 0 → 0 = (zwo (g0 21) (g0 22) (g0 28) x1 l2))) → K202 k3 g) (hQ : ∀ (v : Int) (g' : zi_M), zk_I g' → zk_fr fr_Law_worth g0 g' → ((-2147483648) ≤ v ∧ v ≤ 2147483647) → (v = zwo (g0 21) (g0 22) (g0 28) l1 l2) → Q v g') : ∀ (n : Nat) {l3 : Int} {l4 : Int} {g : zi_M}, zk_I g → zk_fr fr_Law_worth g0 g → (0 ≤ l3 ∧ l3 ≤ 40) → (0 ≤ l4 ∧ l4 ≤ 400) → (zwJ l2 g l3 l4 (zwo (g0 21) (g0 22) (g0 28) x1 l2)) → 400 - l4 < (n : Int) → w_Law_worth_l5 l2 K202 Q n l3 l4 g
  | 0, l3, l4, g, I, F, b0, b1, b2, hm => by exfalso; omega
  | n + 1, l3, l4, g, I, F, b0, b1, b2, hm => by
    unfold w_Law_worth_l5
    refine ⟨⟨by omega, by omega⟩, ⟨by omega, by omega⟩, ?_⟩
    refine ⟨fun c43 => ?_, fun c43 => ?_⟩
    · have m_1 : (-2147483648) ≤ (g 27 0) ∧ (g 27 0) ≤ 2147483647 := I.1 27 0
      exact hK202 _ _ I F ⟨by omega, by omega⟩ (by exact zwJ_x (by assumption) (by assumption))
    · refine ⟨⟨by omega, by omega⟩, ?_⟩
      have m_2 : (-2147483648) ≤ (g 21 l4) ∧ (g 21 l4) ≤ 2147483647 := I.1 21 l4
      refine ⟨⟨by omega, by omega⟩, ?_⟩
      refine ⟨fun c42 => ?_, fun c42 => ?_⟩
      · refine ⟨fun c26 => ?_, fun c26 => ?_⟩
        · refine ⟨fun c17 => ?_, fun c17 => ?_⟩
          · refine ⟨⟨by omega, by omega⟩, ?_⟩
            refine ⟨fun c12 => ?_, fun c12 => ?_⟩
            · exact k_Law_worth_l5 q2 hK202 hQ n I F ⟨by omega, by omega⟩ ⟨by omega, by omega⟩ (by first | exact zwJ_0 | exact zwJ_p1 (by omega) (by assumption) (by assumption) (by assumption) (by omega) (by assumption) | exact zwJ_p2 (by omega) (by assumption) (by assumption) (by assumption) (by assumption) (by assumption) (by assumption) (by assumption) | exact zwJ_pn (by omega) (by assumption) (by assumption) (by assumption) | exact zwJ_d (by omega) (by assumption) (by assumption) (by assumption) (by assumption) (by assumption) | exact zwJ_dn (by omega) (by assumption) (by assumption) (by omega) | exact zwJ_n (by omega) (by assumption) (by assumption) (by assumption) (by assumption) | exact zwJ_nn (by omega) (by assumption) (by assumption) (by assumption) | exact zwJ_j (by omega) (by assumption) (by assumption) (by assumption) (by assumption) (by assumption) (by assumption) (by assumption) | exact zwJ_jn (by omega) (by assumption) (by assumption) (by assumption) (by assumption) (by assumption)) (by omega)
            · refine ⟨⟨by omega, by omega⟩, ?_⟩
              refine ⟨⟨by omega, by omega⟩, ?_⟩
              have m_3 : (-2147483648) ≤ (g 27 ((l3 + (-1)) - 1)) ∧ (g 27 ((l3 + (-1)) - 1)) ≤ 2147483647 := I.1 27 ((l3 + (-1)) - 1)
              have m_4 : (-2147483648) ≤ (g 27 (l3 + (-1))) ∧ (g 27 (l3 + (-1))) ≤ 2147483647 := I.1 27 (l3 + (-1))
              refine k_Law_joined I ⟨by omega, by omega⟩ ⟨by omega, by omega⟩ ⟨by omega, by omega⟩ (fun v8 b_5 b_6 => ?_)
              intro g11 e_7
              have I_8 : zk_I g11 := by rw [e_7]; exact zk_upd (L := (-2147483648)) (H := 2147483647) rfl rfl I ⟨by omega, by omega⟩
              have F_9 : zk_fr fr_Law_worth g0 g11 := by rw [e_7]; exact zk_fu F rfl
              exact k_Law_worth_l5 q2 hK202 hQ n I_8 F_9 ⟨by omega, by omega⟩ ⟨by omega, by omega⟩ (by first | exact zwJ_0 | exact zwJ_p1 (by omega) (by assumption) (by assumption) (by assumption) (by omega) (by assumption) | exact zwJ_p2 (by omega) (by assumption) (by assumption) (by assumption) (by assumption) (by assumption) (by assumption) (by assumption) | exact zwJ_pn (by omega) (by assumption) (by assumption) (by assumption) | exact zwJ_d (by omega) (by assumption) (by assumption) (by assumption) (by assumption) (by assumption) | exact zwJ_dn (by omega) (by assumption) (by assumption) (by omega) | exact zwJ_n (by omega) (by assumption) (by assumption) (by assumption) (by assumption) | exact zwJ_nn (by omega) (by assumption) (by assumption) (by assumption) | exact zwJ_j (by omega) (by assumption) (by assumption) (by assumption) (by assumption) (by assumption) (by assumption) (by assumption) | exact zwJ_jn (by omega) (by assumption) (by assumption) (by assumption) (by assumption) (by assumption)) (by omega)
          · refine ⟨⟨by omega, by omega⟩, ?_⟩
            refine ⟨fun c16 => ?_, fun c16 => ?_⟩
            · exact k_Law_worth_l5 q2 hK202 hQ n I F ⟨by omega, by omega⟩ ⟨by omega, by omega⟩ (by first | exact zwJ_0 | exact zwJ_p1 (by omega) (by assumption) (by assumption) (by assumption) (by omega) (by assumption) | exact zwJ_p2 (by omega) (by assumption) (by assumption) (by assumption) (by assumption) (by assumption) (by assumption) (by assumption) | exact zwJ_pn (by omega) (by assumption) (by assumption) (by assumption) | exact zwJ_d (by omega) (by assumption) (by assumption) (by assumption) (by assumption) (by assumption) | exact zwJ_dn (by omega) (by assumption) (by assumption) (by omega) | exact zwJ_n (by omega) (by assumption) (by assumption) (by assumption) (by assumption) | exact zwJ_nn (by omega) (by assumption) (by assumption) (by assumption) | exact zwJ_j (by omega) (by assumption) (by assumption) (by assumption) (by assumption) (by assumption) (by assumption) (by assumption) | exact zwJ_jn (by omega) (by assumption) (by assumption) (by assumption) (by assumption) (by assumption)) (by omega)
            · refine ⟨⟨by omega, by omega⟩, ?_⟩
              have m_13 : (-2147483648) ≤ (g 27 (l3 - 1)) ∧ (g 27 (l3 - 1)) ≤ 2147483647 := I.1 27 (l3 - 1)
              have m_14 := zi_r_w (1 - (g 27 (l3 - 1)))
              intro g15 e_10
              have I_11 : zk_I g15 := by rw [e_10]; exact zk_upd (L := (-2147483648)) (H := 2147483647) rfl rfl I ⟨by omega, by omega⟩
              have F_12 : zk_fr fr_Law_worth g0 g15 := by rw [e_10]; exact zk_fu F rfl
              exact k_Law_worth_l5 q2 hK202 hQ n I_11 F_12 ⟨by omega, by omega⟩ ⟨by omega, by omega⟩ (by first | exact zwJ_0 | exact zwJ_p1 (by omega) (by assumption) (by assumption) (by assumption) (by omega) (by assumption) | exact zwJ_p2 (by omega) (by assumption) (by assumption) (by assumption) (by assumption) (by assumption) (by assumption) (by assumption) | exact zwJ_pn (by omega) (by assumption) (by assumption) (by assumption) | exact zwJ_d (by omega) (by assumption) (by assumption) (by assumption) (by assumption) (by assumption) | exact zwJ_dn (by omega) (by assumption) (by assumption) (by omega) | exact zwJ_n (by omega) (by assumption) (by assumption) (by assumption) (by assumption) | exact zwJ_nn (by omega) (by assumption) (by assumption) (by assumption) | exact zwJ_j (by omega) (by assumption) (by assumption) (by assumption) (by assumption) (by assumption) (by assumption) (by assumption) | exact zwJ_jn (by omega) (by assumption) (by assumption) (by assumption) (by assumption) (by assumption)) (by omega)
        · refine ⟨⟨by omega, by omega⟩, ?_⟩
          refine ⟨fun c25 => ?_, fun c25 => ?_⟩
          · exact k_Law_worth_l5 q2 hK202 hQ n I F ⟨by omega, by omega⟩ ⟨by omega, by omega⟩ (by first | exact zwJ_0 | exact zwJ_p1 (by omega) (by assumption) (by assumption) (by assumption) (by omega) (by assumption) | exact zwJ_p2 (by omega) (by assumption) (by assumption) (by assumption) (by assumption) (by assumption) (by assumption) (by assumption) | exact zwJ_pn (by omega) (by assumption) (by assumption) (by assumption) | exact zwJ_d (by omega) (by assumption) (by assumption) (by assumption) (by assumption) (by assumption) | exact zwJ_dn (by omega) (by assumption) (by assumption) (by omega) | exact zwJ_n (by omega) (by assumption) (by assumption) (by assumption) (by assumption) | exact zwJ_nn (by omega) (by assumption) (by assumption) (by assumption) | exact zwJ_j (by omega) (by assumption) (by assumption) (by assumption) (by assumption) (by assumption) (by assumption) (by assumption) | exact zwJ_jn (by omega) (by assumption) (by assumption) (by assumption) (by assumption) (by assumption)) (by omega)
          · have m_15 : 0 ≤ (g 22 l4) ∧ (g 22 l4) ≤ 9999 := I.1 22 l4
            refine ⟨⟨by omega, by omega⟩, ?_⟩
            refine ⟨fun c24 => ?_, fun c24 => ?_⟩
            · exact k_Law_worth_l5 q2 hK202 hQ n I F ⟨by omega, by omega⟩ ⟨by omega, by omega⟩ (by first | exact zwJ_0 | exact zwJ_p1 (by omega) (by assumption) (by assumption) (by assumption) (by omega) (by assumption) | exact zwJ_p2 (by omega) (by assumption) (by assumption) (by assumption) (by assumption) (by assumption) (by assumption) (by assumption) | exact zwJ_pn (by omega) (by assumption) (by assumption) (by assumption) | exact zwJ_d (by omega) (by assumption) (by assumption) (by assumption) (by assumption) (by assumption) | exact zwJ_dn (by omega) (by assumption) (by assumption) (by omega) | exact zwJ_n (by omega) (by assumption) (by assumption) (by assumption) (by assumption) | exact zwJ_nn (by omega) (by assumption) (by assumption) (by assumption) | exact zwJ_j (by omega) (by assumption) (by assumption) (by assumption) (by assumption) (by assumption) (by assumption) (by assumption) | exact zwJ_jn (by omega) (by assumption) (by assumption) (by assumption) (by assumption) (by assumption)) (by omega)
            · refine ⟨⟨by omega, by omega⟩, ?_⟩
              have m_16 : (-2147483648) ≤ (g 27 (l3 - 1)) ∧ (g 27 (l3 - 1)) ≤ 2147483647 := I.1 27 (l3 - 1)
              refine ⟨⟨by omega, by omega⟩, (by omega), ?_⟩
              have m_20 := zi_tdiv_f (g 27 (l3 - 1)) (g 22 l4)
              intro g23 e_17
              have I_18 : zk_I g23 := by rw [e_17]; exact zk_upd (L := (-2147483648)) (H := 2147483647) rfl rfl I ⟨by omega, by omega⟩
              have F_19 : zk_fr fr_Law_worth g0 g23 := by rw [e_17]; exact zk_fu F rfl
              exact k_Law_worth_l5 q2 hK202 hQ n I_18 F_19 ⟨by omega, by omega⟩ ⟨by omega, by omega⟩ (by first | exact zwJ_0 | exact zwJ_p1 (by omega) (by assumption) (by assumption) (by assumption) (by omega) (by assumption) | exact zwJ_p2 (by omega) (by assumption) (by assumption) (by assumption) (by assumption) (by assumption) (by assumption) (by assumption) | exact zwJ_pn (by omega) (by assumption) (by assumption) (by assumption) | exact zwJ_d (by omega) (by assumption) (by assumption) (by assumption) (by assumption) (by assumption) | exact zwJ_dn (by omega) (by assumption) (by assumption) (by omega) | exact zwJ_n (by omega) (by assumption) (by assumption) (by assumption) (by assumption) | exact zwJ_nn (by omega) (by assumption) (by assumption) (by assumption) | exact zwJ_j (by omega) (by assumption) (by assumption) (by assumption) (by assumption) (by assumption) (by assumption) (by assumption) | exact zwJ_jn (by omega) (by assumption) (by assumption) (by assumption) (by assumption) (by assumption)) (by omega)
      · refine ⟨⟨by omega, by omega⟩, ?_⟩
        refine ⟨fun c41 => ?_, fun c41 => ?_⟩
        · exact k_Law_worth_l5 q2 hK202 hQ n I F ⟨by omega, by omega⟩ ⟨by omega, by omega⟩ (by first | exact zwJ_0 | exact zwJ_p1 (by omega) (by assumption) (by assumption) (by assumption) (by omega) (by assumption) | exact zwJ_p2 (by omega) (by assumption) (by assumption) (by assumption) (by assumption) (by assumption) (by assumption) (by assumption) | exact zwJ_pn (by omega) (by assumption) (by assumption) (by assumption) | exact zwJ_d (by omega) (by assumption) (by assumption) (by assumption) (by assumption) (by assumption) | exact zwJ_dn (by omega) (by assumption) (by assumption) (by omega) | exact zwJ_n (by omega) (by assumption) (by assumption) (by assumption) (by assumption) | exact zwJ_nn (by omega) (by assumption) (by assumption) (by assumption) | exact zwJ_j (by omega) (by assumption) (by assumption) (by assumption) (by assumption) (by assumption) (by assumption) (by assumption) | exact zwJ_jn (by omega) (by assumption) (by assumption) (by assumption) (by assumption) (by assumption)) (by omega)
        · refine ⟨fun c40 => ?_, fun c40 => ?_⟩
          · refine ⟨⟨by omega, by omega⟩, ?_⟩
            have m_24 : 0 ≤ (g 22 l4) ∧ (g 22 l4) ≤ 9999 := I.1 22 l4
            intro g29 e_21
            have I_22 : zk_I g29 := by rw [e_21]; exact zk_upd (L := (-2147483648)) (H := 2147483647) rfl rfl I ⟨by omega, by omega⟩
            have F_23 : zk_fr fr_Law_worth g0 g29 := by rw [e_21]; exact zk_fu F rfl
            exact k_Law_worth_l5 q2 hK202 hQ n I_22 F_23 ⟨by omega, by omega⟩ ⟨by omega, by omega⟩ (by first | exact zwJ_0 | exact zwJ_p1 (by omega) (by assumption) (by assumption) (by assumption) (by omega) (by assumption) | exact zwJ_p2 (by omega) (by assumption) (by assumption) (by assumption) (by assumption) (by assumption) (by assumption) (by assumption) | exact zwJ_pn (by omega) (by assumption) (by assumption) (by assumption) | exact zwJ_d (by omega) (by assumption) (by assumption) (by assumption) (by assumption) (by assumption) | exact zwJ_dn (by omega) (by assumption) (by assumption) (by omega) | exact zwJ_n (by omega) (by assumption) (by assumption) (by assumption) (by assumption) | exact zwJ_nn (by omega) (by assumption) (by assumption) (by assumption) | exact zwJ_j (by omega) (by assumption) (by assumption) (by assumption) (by assumption) (by assumption) (by assumption) (by assumption) | exact zwJ_jn (by omega) (by assumption) (by assumption) (by assumption) (by assumption) (by assumption)) (by omega)
          · have m_25 : 0 ≤ (g 22 l4) ∧ (g 22 l4) ≤ 9999 := I.1 22 l4
            refine ⟨⟨by omega, by omega⟩, ?_⟩
            refine ⟨fun c39 => ?_, fun c39 => ?_⟩
            · refine ⟨⟨by omega, by omega⟩, ?_⟩
              intro g32 e_26
              have I_27 : zk_I g32 := by rw [e_26]; exact zk_upd (L := (-2147483648)) (H := 2147483647) rfl rfl I ⟨by omega, by omega⟩
              have F_28 : zk_fr fr_Law_worth g0 g32 := by rw [e_26]; exact zk_fu F rfl
              exact k_Law_worth_l5 q2 hK202 hQ n I_27 F_28 ⟨by omega, by omega⟩ ⟨by omega, by omega⟩ (by first | exact zwJ_0 | exact zwJ_p1 (by omega) (by assumption) (by assumption) (by assumption) (by omega) (by assumption) | exact zwJ_p2 (by omega) (by assumption) (by assumption) (by assumption) (by assumption) (by assumption) (by assumption) (by assumption) | exact zwJ_pn (by omega) (by assumption) (by assumption) (by assumption) | exact zwJ_d (by omega) (by assumption) (by assumption) (by assumption) (by assumption) (by assumption) | exact zwJ_dn (by omega) (by assumption) (by assumption) (by omega) | exact zwJ_n (by omega) (by assumption) (by assumption) (by assumption) (by assumption) | exact zwJ_nn (by omega) (by assumption) (by assumption) (by assumption) | exact zwJ_j (by omega) (by assumption) (by assumption) (by assumption) (by assumption) (by assumption) (by assumption) (by assumption) | exact zwJ_jn (by omega) (by assumption) (by assumption) (by assumption) (by assumption) (by assumption)) (by omega)
            · refine ⟨fun c38 => ?_, fun c38 => ?_⟩
              · refine ⟨⟨by omega, by omega⟩, ?_⟩
                refine ⟨⟨by omega, by omega⟩, ?_⟩
                have m_32 : (-2147483648) ≤ (g 28 (g 22 l4)) ∧ (g 28 (g 22 l4)) ≤ 2147483647 := I.1 28 (g 22 l4)
                intro g35 e_29
                have I_30 : zk_I g35 := by rw [e_29]; exact zk_upd (L := (-2147483648)) (H := 2147483647) rfl rfl I ⟨by omega, by omega⟩
                have F_31 : zk_fr fr_Law_worth g0 g35 := by rw [e_29]; exact zk_fu F rfl
                exact k_Law_worth_l5 q2 hK202 hQ n I_30 F_31 ⟨by omega, by omega⟩ ⟨by omega, by omega⟩ (by first | exact zwJ_0 | exact zwJ_p1 (by omega) (by assumption) (by assumption) (by assumption) (by omega) (by assumption) | exact zwJ_p2 (by omega) (by assumption) (by assumption) (by assumption) (by assumption) (by assumption) (by assumption) (by assumption) | exact zwJ_pn (by omega) (by assumption) (by assumption) (by assumption) | exact zwJ_d (by omega) (by assumption) (by assumption) (by assumption) (by assumption) (by assumption) | exact zwJ_dn (by omega) (by assumption) (by assumption) (by omega) | exact zwJ_n (by omega) (by assumption) (by assumption) (by assumption) (by assumption) | exact zwJ_nn (by omega) (by assumption) (by assumption) (by assumption) | exact zwJ_j (by omega) (by assumption) (by assumption) (by assumption) (by assumption) (by assumption) (by assumption) (by assumption) | exact zwJ_jn (by omega) (by assumption) (by assumption) (by assumption) (by assumption) (by assumption)) (by omega)
              · refine ⟨⟨by omega, by omega⟩, ?_⟩
                intro g37 e_33
                have I_34 : zk_I g37 := by rw [e_33]; exact zk_upd (L := (-2147483648)) (H := 2147483647) rfl rfl I ⟨by omega, by omega⟩
                have F_35 : zk_fr fr_Law_worth g0 g37 := by rw [e_33]; exact zk_fu F rfl
                exact k_Law_worth_l5 q2 hK202 hQ n I_34 F_35 ⟨by omega, by omega⟩ ⟨by omega, by omega⟩ (by first | exact zwJ_0 | exact zwJ_p1 (by omega) (by assumption) (by assumption) (by assumption) (by omega) (by assumption) | exact zwJ_p2 (by omega) (by assumption) (by assumption) (by assumption) (by assumption) (by assumption) (by assumption) (by assumption) | exact zwJ_pn (by omega) (by assumption) (by assumption) (by assumption) | exact zwJ_d (by omega) (by assumption) (by assumption) (by assumption) (by assumption) (by assumption) | exact zwJ_dn (by omega) (by assumption) (by assumption) (by omega) | exact zwJ_n (by omega) (by assumption) (by assumption) (by assumption) (by assumption) | exact zwJ_nn (by omega) (by assumption) (by assumption) (by assumption) | exact zwJ_j (by omega) (by assumption) (by assumption) (by assumption) (by assumption) (by assumption) (by assumption) (by assumption) | exact zwJ_jn (by omega) (by assumption) (by assumption) (by assumption) (by assumption) (by assumption)) (by omega)
set_option maxRecDepth 100000 in
set_option maxHeartbeats 4000000 in
theorem k_Law_worth {l1 : Int} {l2 : Int} {g : zi_M} {Q : Int → zi_M → Prop} (I : zk_I g) (p1 : 0 ≤ l1 ∧ l1 ≤ 400) (p2 : 0 ≤ l2 ∧ l2 ≤ 400) (hQ : ∀ (v : Int) (g' : zi_M), zk_I g' → zk_fr fr_Law_worth g g' → ((-2147483648) ≤ v ∧ v ≤ 2147483647) → (v = zwo (g 21) (g 22) (g 28) l1 l2) → Q v g') : w_Law_worth l1 l2 g Q := by
  unfold w_Law_worth
  refine ⟨((400 - l1 : Int).toNat + 1), k_Law_worth_l5 (l2 := l2) (x1 := l1) ⟨by omega, by omega⟩ (fun k44 g45 I_36 F_37 b_38 b_39 => ?_) hQ ((400 - l1 : Int).toNat + 1) I (zk_f0 _) ⟨by omega, by omega⟩ ⟨by omega, by omega⟩ (by first | exact zwJ_0 | exact zwJ_p1 (by omega) (by assumption) (by assumption) (by assumption) (by omega) (by assumption) | exact zwJ_p2 (by omega) (by assumption) (by assumption) (by assumption) (by assumption) (by assumption) (by assumption) (by assumption) | exact zwJ_pn (by omega) (by assumption) (by assumption) (by assumption) | exact zwJ_d (by omega) (by assumption) (by assumption) (by assumption) (by assumption) (by assumption) | exact zwJ_dn (by omega) (by assumption) (by assumption) (by omega) | exact zwJ_n (by omega) (by assumption) (by assumption) (by assumption) (by assumption) | exact zwJ_nn (by omega) (by assumption) (by assumption) (by assumption) | exact zwJ_j (by omega) (by assumption) (by assumption) (by assumption) (by assumption) (by assumption) (by assumption) (by assumption) | exact zwJ_jn (by omega) (by assumption) (by assumption) (by assumption) (by assumption) (by assumption)) (by omega)⟩
  refine ⟨⟨by omega, by omega⟩, ?_⟩
  refine ⟨fun c47 => ?_, fun c47 => ?_⟩
  · exact hQ _ _ I_36 F_37 ⟨by omega, by omega⟩ (by first | exact zwJ_g1 (by assumption) (by omega) | exact zwJ_g2 (by assumption) (by omega))
  · have m_40 : (-2147483648) ≤ (g45 27 0) ∧ (g45 27 0) ≤ 2147483647 := I_36.1 27 0
    exact hQ _ _ I_36 F_37 ⟨by omega, by omega⟩ (by first | exact zwJ_g1 (by assumption) (by omega) | exact zwJ_g2 (by assumption) (by omega))
