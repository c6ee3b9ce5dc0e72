-- by program (wip/gen/mkz.py)
-- SpoutNewsModel.canSay(I)Z
set_option maxRecDepth 100000 in
set_option maxHeartbeats 4000000 in
theorem k_M_canSay {l1 : Int} {g : zi_M} {Q : Int → zi_M → Prop} (I : zk_I g) (p1 : 0 ≤ l1 ∧ l1 ≤ 9) (hQ : ∀ v : Int, ((g 215 (6 + l1)) = 0 → v = 1) → (¬ (g 215 (6 + l1)) = 0 → ¬ (g 215 (6 + l1)) = 1 → v = 0) → (¬ (g 215 (6 + l1)) = 0 → (g 215 (6 + l1)) = 1 → (g 215 3) < 5 → v = 0) → (¬ (g 215 (6 + l1)) = 0 → (g 215 (6 + l1)) = 1 → 5 ≤ (g 215 3) → v = 1) → Q v g) : w_M_canSay l1 g Q := by
  unfold w_M_canSay
  refine ⟨⟨by omega, by omega⟩, ?_⟩
  have m_1 := zk_now6 I (i := (6 + l1)) (by omega)
  refine ⟨⟨by omega, by omega⟩, ?_⟩
  refine ⟨fun c6 => ?_, fun c6 => ?_⟩
  · have m_2 := zk_rng I 215 3
    exact hQ _ (by intros; omega) (by intros; omega) (by intros; omega) (by intros; omega)
  · refine ⟨fun c5 => ?_, fun c5 => ?_⟩
    · have m_3 := zk_rng I 215 3
      exact hQ _ (by intros; omega) (by intros; omega) (by intros; omega) (by intros; omega)
    · have m_4 := zk_rng I 215 3
      refine ⟨⟨by omega, by omega⟩, ?_⟩
      refine ⟨fun c4 => ?_, fun c4 => ?_⟩
      · exact hQ _ (by intros; omega) (by intros; omega) (by intros; omega) (by intros; omega)
      · exact hQ _ (by intros; omega) (by intros; omega) (by intros; omega) (by intros; omega)
-- SpoutNewsModel.slipOf(II)I
noncomputable def fr_M_slipOf (a : Nat) (i : Int) : Prop := a = 235 ∨ a = 236
set_option maxRecDepth 100000 in
set_option maxHeartbeats 4000000 in
theorem k_M_slipOf {l1 : Int} {l2 : Int} {g : zi_M} {Q : Int → zi_M → Prop} (I : zk_I g) (p1 : 0 ≤ l1 ∧ l1 ≤ 9) (p2 : 0 ≤ l2 ∧ l2 ≤ 15) (hQ : ∀ (v : Int) (g' : zi_M), zk_I g' → zk_fr fr_M_slipOf g g' → (0 ≤ v ∧ v ≤ 1000) → Q v g') : w_M_slipOf l1 l2 g Q := by
  unfold w_M_slipOf
  refine k_M_asks I ⟨by omega, by omega⟩ ⟨by omega, by omega⟩ (fun g2 I_1 F_2 => ?_)
  have F_3 : zk_fr fr_M_slipOf g g2 := zk_ft (zk_f0 _) F_2 (fun a i => (fun h => (Or.inl h)))
  have m_4 := zk_rng I_1 215 3
  have m_5 : g2 215 3 = g 215 3 := F_2 _ _ (by unfold fr_M_asks; omega)
  have m_6 := zk_rng I 215 3
  have m_7 := zi_r_w (20 * (g2 215 3))
  refine k_M_lawTells I_1 ⟨by omega, by omega⟩ ⟨by omega, by omega⟩ ⟨by omega, by omega⟩ (fun v4 g5 I_10 F_11 b_8 b_9 => ?_)
  have F_12 : zk_fr fr_M_slipOf g g5 := zk_ft F_3 F_11 (fun a i => (fun h => (Or.inr h)))
  exact hQ _ _ I_10 F_12 ⟨by omega, by omega⟩
-- SpoutNewsModel.draw(I)I
noncomputable def fr_M_draw (a : Nat) (i : Int) : Prop := (a = 215 ∧ 1 ≤ i ∧ i < 2)
set_option maxRecDepth 100000 in
set_option maxHeartbeats 4000000 in
theorem k_M_draw {l1 : Int} {g : zi_M} {Q : Int → zi_M → Prop} (I : zk_I g) (p1 : 1000 ≤ l1 ∧ l1 ≤ 1000) (hQ : ∀ (v : Int) (g' : zi_M), zk_I g' → zk_fr fr_M_draw g g' → (0 ≤ v ∧ v ≤ 999) → Q v g') : w_M_draw l1 g Q := by
  unfold w_M_draw
  have m_4 := zk_rng I 215 1
  have m_5 := zi_r_w ((1664525 * (g 215 1)) + 1013904223)
  intro g1 e_1
  have I_2 : zk_I g1 := by rw [e_1]; exact zk_upd (zk_nl0 (i := 1) (by omega)).1 (zk_nl0 (i := 1) (by omega)).2 I ⟨by omega, by omega⟩
  have F_3 : zk_fr fr_M_draw g g1 := by rw [e_1]; exact zk_fu (zk_f0 _) ⟨rfl, by omega, by omega⟩
  refine ⟨⟨by omega, by omega⟩, (by omega), ?_⟩
  have m_6 := zk_rng I_2 215 1
  have m_7 : g1 215 1 = zi_w ((1664525 * (g 215 1)) + 1013904223) := by rw [e_1]; exact zi_u_eq
  have m_8 := zi_ush_f (g1 215 1) 8
  have m_9 := zi_tmod_f (zi_ush (g1 215 1) 8) l1
  exact hQ _ _ I_2 F_3 ⟨by omega, by omega⟩
-- SpoutNewsModel.saysAs(II)I
noncomputable def fr_M_saysAs (a : Nat) (i : Int) : Prop := a = 235 ∨ a = 236 ∨ (a = 215 ∧ 1 ≤ i ∧ i < 2) ∨ (a = 215 ∧ 5 ≤ i ∧ i < 6)
set_option maxRecDepth 100000 in
set_option maxHeartbeats 4000000 in
theorem k_M_saysAs_b47 {l2 : Int} {s0 : Int} {Q : Int → zi_M → Prop} {g : zi_M} {g0 : zi_M} (I : zk_I g) (F : zk_fr fr_M_saysAs g0 g) (p2 : 0 ≤ l2 ∧ l2 ≤ 15) (ps0 : 0 ≤ s0 ∧ s0 ≤ 1) (hQ : ∀ (v : Int) (g' : zi_M), zk_I g' → zk_fr fr_M_saysAs g0 g' → (0 ≤ v ∧ v ≤ 15) → Q v g') : w_M_saysAs_b47 l2 s0 g Q := by
  unfold w_M_saysAs_b47
  refine ⟨⟨by omega, by omega⟩, ?_⟩
  refine ⟨fun c13 => ?_, fun c13 => ?_⟩
  · have m_15 := zk_rng I 215 5
    have m_16 := zi_r_w ((g 215 5) + 1)
    intro g11 e_12
    have I_13 : zk_I g11 := by rw [e_12]; exact zk_upd (zk_nl3 (i := 5) (by omega)).1 (zk_nl3 (i := 5) (by omega)).2 I ⟨by omega, by omega⟩
    have F_14 : zk_fr fr_M_saysAs g0 g11 := by rw [e_12]; exact zk_fu F (Or.inr (Or.inr (Or.inr ⟨rfl, by omega, by omega⟩)))
    refine ⟨⟨by omega, by omega⟩, ?_⟩
    have m_17 := zi_tmod_f (l2 + 1) 16
    have m_18 := zi_tmod_c (l2 + 1) 16 (by decide)
    exact hQ _ _ I_13 F_14 ⟨by omega, by omega⟩
  · exact hQ _ _ I F ⟨by omega, by omega⟩
set_option maxRecDepth 100000 in
set_option maxHeartbeats 4000000 in
theorem k_M_saysAs {l1 : Int} {l2 : Int} {g : zi_M} {Q : Int → zi_M → Prop} (I : zk_I g) (p1 : 0 ≤ l1 ∧ l1 ≤ 9) (p2 : 0 ≤ l2 ∧ l2 ≤ 15) (hQ : ∀ (v : Int) (g' : zi_M), zk_I g' → zk_fr fr_M_saysAs g g' → (0 ≤ v ∧ v ≤ 15) → Q v g') : w_M_saysAs l1 l2 g Q := by
  unfold w_M_saysAs
  refine k_M_slipOf I ⟨by omega, by omega⟩ ⟨by omega, by omega⟩ (fun v1 g2 I_2 F_3 b_1 => ?_)
  have F_4 : zk_fr fr_M_saysAs g g2 := zk_ft (zk_f0 _) F_3 (fun a i => (fun h => Or.elim h (fun h => (Or.inl h)) (fun h => (Or.inr (Or.inl h)))))
  have m_5 : 0 ≤ (g2 214 5) ∧ (g2 214 5) ≤ 1 := I_2.1 214 5
  have m_6 : g2 214 5 = g 214 5 := F_3 _ _ (by unfold fr_M_slipOf; omega)
  have m_7 : 0 ≤ (g 214 5) ∧ (g 214 5) ≤ 1 := I.1 214 5
  refine ⟨⟨by omega, by omega⟩, ?_⟩
  refine ⟨fun c17 => ?_, fun c17 => ?_⟩
  · refine k_M_draw I_2 ⟨by omega, by omega⟩ (fun v5 g6 I_9 F_10 b_8 => ?_)
    have F_11 : zk_fr fr_M_saysAs g g6 := zk_ft F_4 F_10 (fun a i => (fun h => (Or.inr (Or.inr (Or.inl h)))))
    refine ⟨⟨by omega, by omega⟩, ⟨by omega, by omega⟩, ?_⟩
    refine ⟨fun c14 => ?_, fun c14 => ?_⟩
    · exact k_M_saysAs_b47 I_9 F_11 ⟨by omega, by omega⟩ ⟨by omega, by omega⟩ hQ
    · exact k_M_saysAs_b47 I_9 F_11 ⟨by omega, by omega⟩ ⟨by omega, by omega⟩ hQ
  · refine ⟨⟨by omega, by omega⟩, ?_⟩
    refine ⟨fun c16 => ?_, fun c16 => ?_⟩
    · exact k_M_saysAs_b47 I_2 F_4 ⟨by omega, by omega⟩ ⟨by omega, by omega⟩ hQ
    · exact k_M_saysAs_b47 I_2 F_4 ⟨by omega, by omega⟩ ⟨by omega, by omega⟩ hQ
-- SpoutNewsModel.into(I)I
set_option maxRecDepth 100000 in
set_option maxHeartbeats 4000000 in
theorem k_M_into {l1 : Int} {g : zi_M} {Q : Int → zi_M → Prop} (I : zk_I g) (p1 : 0 ≤ l1 ∧ l1 ≤ 9) (hQ : ∀ v : Int, (v = (g 232 l1) - 1) → Q v g) : w_M_into l1 g Q := by
  unfold w_M_into
  refine ⟨⟨by omega, by omega⟩, ?_⟩
  have m_1 : 0 ≤ (g 232 l1) ∧ (g 232 l1) ≤ 10 := I.1 232 l1
  exact hQ _ (by intros; omega)
-- SpoutNewsModel.saysFirst(I)V
noncomputable def fr_M_saysFirst (a : Nat) (i : Int) : Prop := a = 221 ∨ a = 235 ∨ a = 236 ∨ a = 237 ∨ a = 238 ∨ (a = 214 ∧ i = 43) ∨ (a = 215 ∧ 1 ≤ i ∧ i < 2) ∨ (a = 215 ∧ 2 ≤ i ∧ i < 3) ∨ (a = 215 ∧ 258 ≤ i ∧ i < 264) ∨ (a = 215 ∧ 26 ≤ i ∧ i < 36) ∨ (a = 215 ∧ 36 ≤ i ∧ i < 236) ∨ (a = 215 ∧ 4 ≤ i ∧ i < 5) ∨ (a = 215 ∧ 5 ≤ i ∧ i < 6)
set_option maxRecDepth 100000 in
set_option maxHeartbeats 4000000 in
theorem k_M_saysFirst_l14 {l1 : Int} {K65 : zi_M → Prop} {Q : Int → zi_M → Prop} {g0 : zi_M} (q1 : 0 ≤ l1 ∧ l1 ≤ 9) (hK65 : ∀ (g : zi_M), zk_I g → zk_fr fr_M_saysFirst g0 g → (g 215 (26 + l1) = g0 215 (26 + l1)) → (g 214 43 = g0 214 43) → K65 g) (hQ : ∀ g' : zi_M, zk_I g' → zk_fr fr_M_saysFirst g0 g' → (g' 215 (26 + l1) = g0 215 (26 + l1) - 1) → (g' 214 43 ≤ g0 214 43 + 1) → Q 0 g') : ∀ (n : Nat) {l3 : Int} {g : zi_M}, zk_I g → zk_fr fr_M_saysFirst g0 g → (0 ≤ l3 ∧ l3 ≤ 20) → (g 215 (26 + l1) = g0 215 (26 + l1)) → (g 214 43 = g0 214 43) → 20 - l3 < (n : Int) → w_M_saysFirst_l14 l1 K65 Q n l3 g
  | 0, l3, g, I, F, b0, b1, b2, hm => by exfalso; omega
  | n + 1, l3, g, I, F, b0, b1, b2, hm => by
    unfold w_M_saysFirst_l14
    refine ⟨⟨by omega, by omega⟩, ?_⟩
    have m_7 := zk_now26 I (i := (26 + l1)) (by omega)
    refine ⟨⟨by omega, by omega⟩, ⟨by omega, by omega⟩, ?_⟩
    refine ⟨fun c13 => ?_, fun c13 => ?_⟩
    · have m_8 : 0 ≤ (g 214 43) ∧ (g 214 43) ≤ 90 := I.1 214 43
      exact hK65 _ I F (by omega) (by omega)
    · refine ⟨⟨by omega, by omega⟩, ?_⟩
      refine ⟨⟨by omega, by omega⟩, ?_⟩
      have m_12 := zk_now36 I (i := (((36 + (20 * l1)) + l3) + 1)) (by omega)
      intro g12 e_9
      have I_10 : zk_I g12 := by rw [e_9]; exact zk_upd (zk_nl36 (i := (36 + (20 * l1)) + l3) (by omega)).1 (zk_nl36 (i := (36 + (20 * l1)) + l3) (by omega)).2 I ⟨by omega, by omega⟩
      have F_11 : zk_fr fr_M_saysFirst g0 g12 := by rw [e_9]; exact zk_fu F (Or.inr (Or.inr (Or.inr (Or.inr (Or.inr (Or.inr (Or.inr (Or.inr (Or.inr (Or.inr (Or.inl ⟨rfl, by omega, by omega⟩)))))))))))
      have m_13 := zk_now26 I_10 (i := (26 + l1)) (by omega)
      have m_14 : (26 + l1 = (36 + (20 * l1)) + l3 → g12 215 (26 + l1) = g 215 (((36 + (20 * l1)) + l3) + 1)) ∧ (¬ 26 + l1 = (36 + (20 * l1)) + l3 → g12 215 (26 + l1) = g 215 (26 + l1)) := by rw [e_9]; exact zi_u_if
      have m_15 : 0 ≤ (g12 214 43) ∧ (g12 214 43) ≤ 90 := I_10.1 214 43
      have m_16 : g12 214 43 = g 214 43 := by rw [e_9]; exact zi_u_ne (by decide)
      have m_17 : 0 ≤ (g 214 43) ∧ (g 214 43) ≤ 90 := I.1 214 43
      exact k_M_saysFirst_l14 q1 hK65 hQ n I_10 F_11 ⟨by omega, by omega⟩ (by omega) (by omega) (by omega)
set_option maxRecDepth 100000 in
set_option maxHeartbeats 4000000 in
theorem k_M_saysFirst_l108 {l1 : Int} {l2 : Int} {K160 : zi_M → Prop} {Q : Int → zi_M → Prop} {g0 : zi_M} (q1 : 0 ≤ l1 ∧ l1 ≤ 9) (q2 : 0 ≤ l2 ∧ l2 ≤ 15) (hK160 : ∀ (g : zi_M), zk_I g → zk_fr fr_M_saysFirst g0 g → (g 215 (26 + l1) = g0 215 (26 + l1) - 1) → (g 214 43 = g0 214 43) → K160 g) (hQ : ∀ g' : zi_M, zk_I g' → zk_fr fr_M_saysFirst g0 g' → (g' 215 (26 + l1) = g0 215 (26 + l1) - 1) → (g' 214 43 ≤ g0 214 43 + 1) → Q 0 g') : ∀ (n : Nat) {l3 : Int} {g : zi_M}, zk_I g → zk_fr fr_M_saysFirst g0 g → (0 ≤ l3 ∧ l3 ≤ 6) → (g 215 (26 + l1) = g0 215 (26 + l1) - 1) → (g 214 43 = g0 214 43) → 6 - l3 < (n : Int) → w_M_saysFirst_l108 l1 l2 K160 Q n l3 g
  | 0, l3, g, I, F, b0, b1, b2, hm => by exfalso; omega
  | n + 1, l3, g, I, F, b0, b1, b2, hm => by
    unfold w_M_saysFirst_l108
    refine ⟨⟨by omega, by omega⟩, ?_⟩
    refine ⟨fun c28 => ?_, fun c28 => ?_⟩
    · have m_36 := zk_now26 I (i := (26 + l1)) (by omega)
      have m_37 : 0 ≤ (g 214 43) ∧ (g 214 43) ≤ 90 := I.1 214 43
      exact hK160 _ I F (by omega) (by omega)
    · refine ⟨⟨by omega, by omega⟩, ?_⟩
      have m_38 := zk_now252 I (i := (252 + l3)) (by omega)
      refine ⟨⟨by omega, by omega⟩, ⟨by omega, by omega⟩, ?_⟩
      refine ⟨fun c27 => ?_, fun c27 => ?_⟩
      · have m_39 := zk_now26 I (i := (26 + l1)) (by omega)
        have m_40 : 0 ≤ (g 214 43) ∧ (g 214 43) ≤ 90 := I.1 214 43
        exact k_M_saysFirst_l108 q1 q2 hK160 hQ n I F ⟨by omega, by omega⟩ (by omega) (by omega) (by omega)
      · refine ⟨⟨by omega, by omega⟩, ?_⟩
        have m_44 := zk_rng I 215 (258 + l3)
        have m_45 := zi_r_shl 1 l2
        try have m_46 := (zi_shl_f l2).2.1 ⟨by omega, by omega⟩
        first | have m_47 := (zi_shl_f l2).2.2.1 ⟨by omega, by omega⟩ | have m_48 := (zi_shl_f l2).2.2.2.1 ⟨by omega, by omega⟩ | have m_49 := (zi_shl_f l2).2.2.2.2.1 ⟨by omega, by omega⟩ | have m_50 := (zi_shl_f l2).2.2.2.2.2.1 ⟨by omega, by omega⟩ | have m_51 := (zi_shl_f l2).2.2.2.2.2.2 ⟨by omega, by omega⟩ | skip
        first | have m_52 := (zi_or_f (g 215 (258 + l3)) (zi_shl 1 l2)).2.1 ⟨by omega, by omega, by omega, by omega⟩ | have m_52 := (zi_or_f (g 215 (258 + l3)) (zi_shl 1 l2)).2.2.1 ⟨by omega, by omega, by omega, by omega⟩ | have m_52 := (zi_or_f (g 215 (258 + l3)) (zi_shl 1 l2)).2.2.2.1 ⟨by omega, by omega, by omega, by omega⟩ | have m_52 := (zi_or_f (g 215 (258 + l3)) (zi_shl 1 l2)).2.2.2.2.1 ⟨by omega, by omega, by omega, by omega⟩ | have m_52 := (zi_or_f (g 215 (258 + l3)) (zi_shl 1 l2)).2.2.2.2.2 ⟨by omega, by omega, by omega, by omega⟩ | have m_52 := zi_r_or (g 215 (258 + l3)) (zi_shl 1 l2)
        intro g26 e_41
        have I_42 : zk_I g26 := by rw [e_41]; exact zk_upd (zk_nl258 (i := 258 + l3) (by omega)).1 (zk_nl258 (i := 258 + l3) (by omega)).2 I ⟨by omega, by omega⟩
        have F_43 : zk_fr fr_M_saysFirst g0 g26 := by rw [e_41]; exact zk_fu F (Or.inr (Or.inr (Or.inr (Or.inr (Or.inr (Or.inr (Or.inr (Or.inr (Or.inl ⟨rfl, by omega, by omega⟩)))))))))
        have m_53 := zk_now26 I_42 (i := (26 + l1)) (by omega)
        have m_54 := zk_now26 I (i := (26 + l1)) (by omega)
        have m_55 : (26 + l1 = 258 + l3 → g26 215 (26 + l1) = zi_or (g 215 (258 + l3)) (zi_shl 1 l2)) ∧ (¬ 26 + l1 = 258 + l3 → g26 215 (26 + l1) = g 215 (26 + l1)) := by rw [e_41]; exact zi_u_if
        have m_56 : 0 ≤ (g26 214 43) ∧ (g26 214 43) ≤ 90 := I_42.1 214 43
        have m_57 : g26 214 43 = g 214 43 := by rw [e_41]; exact zi_u_ne (by decide)
        have m_58 : 0 ≤ (g 214 43) ∧ (g 214 43) ≤ 90 := I.1 214 43
        exact k_M_saysFirst_l108 q1 q2 hK160 hQ n I_42 F_43 ⟨by omega, by omega⟩ (by omega) (by omega) (by omega)
set_option maxRecDepth 100000 in
set_option maxHeartbeats 4000000 in
theorem k_M_saysFirst {l1 : Int} {g : zi_M} {Q : Int → zi_M → Prop} (I : zk_I g) (p1 : 0 ≤ l1 ∧ l1 ≤ 9) (px0 : 1 ≤ g 215 (26 + l1)) (px1 : g 214 43 ≤ 89) (hQ : ∀ g' : zi_M, zk_I g' → zk_fr fr_M_saysFirst g g' → (g' 215 (26 + l1) = g 215 (26 + l1) - 1) → (g' 214 43 ≤ g 214 43 + 1) → Q 0 g') : w_M_saysFirst l1 g Q := by
  unfold w_M_saysFirst
  have m_2 := zk_now36 I (i := ((36 + (20 * l1)) + 0)) (by omega)
  refine k_M_heardAt I ⟨by omega, by omega⟩ ⟨by omega, by omega⟩ (fun v1 b_1 => ?_)
  refine k_M_saysAs I ⟨by omega, by omega⟩ ⟨by omega, by omega⟩ (fun v4 g5 I_4 F_5 b_3 => ?_)
  have F_6 : zk_fr fr_M_saysFirst g g5 := zk_ft (zk_f0 _) F_5 (fun a i => (fun h => Or.elim h (fun h => (Or.inr (Or.inl h))) (fun h => Or.elim h (fun h => (Or.inr (Or.inr (Or.inl h)))) (fun h => Or.elim h (fun h => (Or.inr (Or.inr (Or.inr (Or.inr (Or.inr (Or.inr (Or.inl h)))))))) (fun h => (Or.inr (Or.inr (Or.inr (Or.inr (Or.inr (Or.inr (Or.inr (Or.inr (Or.inr (Or.inr (Or.inr (Or.inr h)))))))))))))))))
  have m_104 := zk_now26 I_4 (i := (26 + l1)) (by omega)
  have m_105 : g5 215 (26 + l1) = g 215 (26 + l1) := F_5 _ _ (by unfold fr_M_saysAs; omega)
  have m_106 := zk_now26 I (i := (26 + l1)) (by omega)
  have m_107 : 0 ≤ (g5 214 43) ∧ (g5 214 43) ≤ 90 := I_4.1 214 43
  have m_108 : g5 214 43 = g 214 43 := F_5 _ _ (by unfold fr_M_saysAs; omega)
  have m_109 : 0 ≤ (g 214 43) ∧ (g 214 43) ≤ 90 := I.1 214 43
  refine ⟨((20 - 0 : Int).toNat + 1), k_M_saysFirst_l14 (l1 := l1) ⟨by omega, by omega⟩ (fun g14 I_18 F_19 b_20 b_21 => ?_) hQ ((20 - 0 : Int).toNat + 1) I_4 F_6 ⟨by omega, by omega⟩ (by omega) (by omega) (by omega)⟩
  refine ⟨⟨by omega, by omega⟩, ?_⟩
  have m_25 := zk_now26 I_18 (i := (26 + l1)) (by omega)
  intro g16 e_22
  have I_23 : zk_I g16 := by rw [e_22]; exact zk_upd (zk_nl26 (i := 26 + l1) (by omega)).1 (zk_nl26 (i := 26 + l1) (by omega)).2 I_18 ⟨by omega, by omega⟩
  have F_24 : zk_fr fr_M_saysFirst g g16 := by rw [e_22]; exact zk_fu F_19 (Or.inr (Or.inr (Or.inr (Or.inr (Or.inr (Or.inr (Or.inr (Or.inr (Or.inr (Or.inl ⟨rfl, by omega, by omega⟩))))))))))
  have m_29 := zk_rng I_23 215 4
  have m_30 := zk_rng I_18 215 4
  have m_31 : (4 = 26 + l1 → g16 215 4 = (g14 215 (26 + l1)) - 1) ∧ (¬ 4 = 26 + l1 → g16 215 4 = g14 215 4) := by rw [e_22]; exact zi_u_if
  have m_32 := zi_r_w ((g16 215 4) + 1)
  intro g17 e_26
  have I_27 : zk_I g17 := by rw [e_26]; exact zk_upd (zk_nl3 (i := 4) (by omega)).1 (zk_nl3 (i := 4) (by omega)).2 I_23 ⟨by omega, by omega⟩
  have F_28 : zk_fr fr_M_saysFirst g g17 := by rw [e_26]; exact zk_fu F_24 (Or.inr (Or.inr (Or.inr (Or.inr (Or.inr (Or.inr (Or.inr (Or.inr (Or.inr (Or.inr (Or.inr (Or.inl ⟨rfl, by omega, by omega⟩))))))))))))
  refine k_M_notes I_27 ⟨by omega, by omega⟩ ⟨by omega, by omega⟩ ⟨by omega, by omega⟩ (fun g19 I_33 F_34 => ?_)
  have F_35 : zk_fr fr_M_saysFirst g g19 := zk_ft F_28 F_34 (fun a i => (fun h => Or.elim h (fun h => (Or.inl h)) (fun h => (Or.inr (Or.inr (Or.inr (Or.inr (Or.inr (Or.inr (Or.inr (Or.inl h)))))))))))
  have m_91 := zk_now26 I_33 (i := (26 + l1)) (by omega)
  have m_92 : g19 215 (26 + l1) = g17 215 (26 + l1) := F_34 _ _ (by unfold fr_M_notes; omega)
  have m_93 := zk_now26 I_27 (i := (26 + l1)) (by omega)
  have m_94 := zk_now26 I_23 (i := (26 + l1)) (by omega)
  have m_95 : g16 215 (26 + l1) = (g14 215 (26 + l1)) - 1 := by rw [e_22]; exact zi_u_eq
  have m_96 : (26 + l1 = 4 → g17 215 (26 + l1) = zi_w ((g16 215 4) + 1)) ∧ (¬ 26 + l1 = 4 → g17 215 (26 + l1) = g16 215 (26 + l1)) := by rw [e_26]; exact zi_u_if
  have m_97 : 0 ≤ (g19 214 43) ∧ (g19 214 43) ≤ 90 := I_33.1 214 43
  have m_98 : g19 214 43 = g17 214 43 := F_34 _ _ (by unfold fr_M_notes; omega)
  have m_99 : 0 ≤ (g17 214 43) ∧ (g17 214 43) ≤ 90 := I_27.1 214 43
  have m_100 : g17 214 43 = g16 214 43 := by rw [e_26]; exact zi_u_ne (by decide)
  have m_101 : 0 ≤ (g16 214 43) ∧ (g16 214 43) ≤ 90 := I_23.1 214 43
  have m_102 : g16 214 43 = g14 214 43 := by rw [e_22]; exact zi_u_ne (by decide)
  have m_103 : 0 ≤ (g14 214 43) ∧ (g14 214 43) ≤ 90 := I_18.1 214 43
  refine ⟨((6 - 0 : Int).toNat + 1), k_M_saysFirst_l108 (l1 := l1) (l2 := v4) ⟨by omega, by omega⟩ ⟨by omega, by omega⟩ (fun g29 I_59 F_60 b_61 b_62 => ?_) hQ ((6 - 0 : Int).toNat + 1) I_33 F_35 ⟨by omega, by omega⟩ (by omega) (by omega) (by omega)⟩
  have m_64 : 0 ≤ (g29 232 (l1)) ∧ (g29 232 (l1)) ≤ 10 := I_59.1 232 (l1)
  refine k_M_into I_59 ⟨by omega, by omega⟩ (fun v30 b_63 => ?_)
  refine ⟨⟨by omega, by omega⟩, ?_⟩
  refine ⟨fun c42 => ?_, fun c42 => ?_⟩
  · refine k_M_into I_59 ⟨by omega, by omega⟩ (fun v34 b_65 => ?_)
    have m_69 : 0 ≤ (g29 214 43) ∧ (g29 214 43) ≤ 90 := I_59.1 214 43
    refine ⟨⟨by omega, by omega⟩, ?_⟩
    intro g38 e_66
    have I_67 : zk_I g38 := by rw [e_66]; exact zk_upd (L := 0) (H := 9) rfl rfl I_59 ⟨by omega, by omega⟩
    have F_68 : zk_fr fr_M_saysFirst g g38 := by rw [e_66]; exact zk_fu F_60 (Or.inr (Or.inr (Or.inr (Or.inl rfl))))
    have m_73 : 0 ≤ (g38 214 43) ∧ (g38 214 43) ≤ 90 := I_67.1 214 43
    have m_74 : g38 214 43 = g29 214 43 := by rw [e_66]; exact zi_u_ne (by decide)
    refine ⟨⟨by omega, by omega⟩, ?_⟩
    intro g40 e_70
    have I_71 : zk_I g40 := by rw [e_70]; exact zk_upd (L := 0) (H := 15) rfl rfl I_67 ⟨by omega, by omega⟩
    have F_72 : zk_fr fr_M_saysFirst g g40 := by rw [e_70]; exact zk_fu F_68 (Or.inr (Or.inr (Or.inr (Or.inr (Or.inl rfl)))))
    have m_78 : 0 ≤ (g40 214 43) ∧ (g40 214 43) ≤ 90 := I_71.1 214 43
    have m_79 : g40 214 43 = g38 214 43 := by rw [e_70]; exact zi_u_ne (by decide)
    intro g41 e_75
    have I_76 : zk_I g41 := by rw [e_75]; exact zk_upd (L := 0) (H := 90) rfl rfl I_71 ⟨by omega, by omega⟩
    have F_77 : zk_fr fr_M_saysFirst g g41 := by rw [e_75]; exact zk_fu F_72 (Or.inr (Or.inr (Or.inr (Or.inr (Or.inr (Or.inl ⟨rfl, rfl⟩))))))
    have m_80 := zk_now26 I_76 (i := (26 + l1)) (by omega)
    have m_81 : g41 215 (26 + l1) = g40 215 (26 + l1) := by rw [e_75]; exact zi_u_ne (by decide)
    have m_82 := zk_now26 I_71 (i := (26 + l1)) (by omega)
    have m_83 : g40 215 (26 + l1) = g38 215 (26 + l1) := by rw [e_70]; exact zi_u_ne (by decide)
    have m_84 := zk_now26 I_67 (i := (26 + l1)) (by omega)
    have m_85 : g38 215 (26 + l1) = g29 215 (26 + l1) := by rw [e_66]; exact zi_u_ne (by decide)
    have m_86 := zk_now26 I_59 (i := (26 + l1)) (by omega)
    have m_87 : 0 ≤ (g41 214 43) ∧ (g41 214 43) ≤ 90 := I_76.1 214 43
    have m_88 : g41 214 43 = (g40 214 43) + 1 := by rw [e_75]; exact zi_u_eq
    exact hQ _ I_76 F_77 (by omega) (by omega)
  · have m_89 := zk_now26 I_59 (i := (26 + l1)) (by omega)
    have m_90 : 0 ≤ (g29 214 43) ∧ (g29 214 43) ≤ 90 := I_59.1 214 43
    exact hQ _ I_59 F_60 (by omega) (by omega)
-- SpoutNewsModel.jetOf(I)I
noncomputable def fr_M_jetOf (a : Nat) (i : Int) : Prop := a = 235 ∨ a = 236
set_option maxRecDepth 100000 in
set_option maxHeartbeats 4000000 in
theorem k_M_jetOf {l1 : Int} {g : zi_M} {Q : Int → zi_M → Prop} (I : zk_I g) (p1 : 0 ≤ l1 ∧ l1 ≤ 9) (hQ : ∀ (v : Int) (g' : zi_M), zk_I g' → zk_fr fr_M_jetOf g g' → (0 ≤ v ∧ v ≤ 9) → Q v g') : w_M_jetOf l1 g Q := by
  unfold w_M_jetOf
  refine k_M_asks I ⟨by omega, by omega⟩ ⟨by omega, by omega⟩ (fun g2 I_1 F_2 => ?_)
  have F_3 : zk_fr fr_M_jetOf g g2 := zk_ft (zk_f0 _) F_2 (fun a i => (fun h => (Or.inl h)))
  have m_4 := zk_rng I_1 215 3
  have m_5 : g2 215 3 = g 215 3 := F_2 _ _ (by unfold fr_M_asks; omega)
  have m_6 := zk_rng I 215 3
  refine k_M_lawTells I_1 ⟨by omega, by omega⟩ ⟨by omega, by omega⟩ ⟨by omega, by omega⟩ (fun v4 g5 I_9 F_10 b_7 b_8 => ?_)
  have F_11 : zk_fr fr_M_jetOf g g5 := zk_ft F_3 F_10 (fun a i => (fun h => (Or.inr h)))
  exact hQ _ _ I_9 F_11 ⟨by omega, by omega⟩
-- SpoutNewsModel.rains()I
noncomputable def fr_M_rains (a : Nat) (i : Int) : Prop := a = 221 ∨ a = 235 ∨ a = 236 ∨ a = 237 ∨ a = 238 ∨ (a = 214 ∧ i = 43) ∨ (a = 215 ∧ 1 ≤ i ∧ i < 2) ∨ (a = 215 ∧ 16 ≤ i ∧ i < 26) ∨ (a = 215 ∧ 2 ≤ i ∧ i < 3) ∨ (a = 215 ∧ 258 ≤ i ∧ i < 264) ∨ (a = 215 ∧ 26 ≤ i ∧ i < 36) ∨ (a = 215 ∧ 36 ≤ i ∧ i < 236) ∨ (a = 215 ∧ 4 ≤ i ∧ i < 5) ∨ (a = 215 ∧ 5 ≤ i ∧ i < 6)
set_option maxRecDepth 100000 in
set_option maxHeartbeats 4000000 in
theorem k_M_rains_l56 {l2 : Int} {l3 : Int} {K73 : zi_M → Prop} {Q : Int → zi_M → Prop} {g0 : zi_M} (q2 : 0 ≤ l2 ∧ l2 ≤ 9) (q3 : 0 ≤ l3 ∧ l3 ≤ 9) (hK73 : ∀ (g : zi_M), zk_I g → zk_fr fr_M_rains g0 g → (g 214 43 ≤ 9 * l2 + 9) → K73 g) (hQ : ∀ (v : Int) (g' : zi_M), zk_I g' → zk_fr fr_M_rains g0 g' → ((-2147483648) ≤ v ∧ v ≤ 2147483647) → Q v g') : ∀ (n : Nat) {l4 : Int} {g : zi_M}, zk_I g → zk_fr fr_M_rains g0 g → (0 ≤ l4 ∧ l4 ≤ 9) → (g 214 43 ≤ 9 * l2 + l4) → (l3 - l4 ≤ g 215 (26 + l2)) → (l4 ≤ l3) → 9 - l4 < (n : Int) → w_M_rains_l56 l2 l3 K73 Q n l4 g
  | 0, l4, g, I, F, b0, b1, b2, b3, hm => by exfalso; omega
  | n + 1, l4, g, I, F, b0, b1, b2, b3, hm => by
    unfold w_M_rains_l56
    refine ⟨⟨by omega, by omega⟩, ⟨by omega, by omega⟩, ?_⟩
    refine ⟨fun c12 => ?_, fun c12 => ?_⟩
    · have m_11 : 0 ≤ (g 214 43) ∧ (g 214 43) ≤ 90 := I.1 214 43
      exact hK73 _ I F (by omega)
    · have m_12 := zk_now26 I (i := (26 + l2)) (by omega)
      have m_13 : 0 ≤ (g 214 43) ∧ (g 214 43) ≤ 90 := I.1 214 43
      refine k_M_saysFirst I ⟨by omega, by omega⟩ (by omega) (by omega) (fun g10 I_16 F_17 b_14 b_15 => ?_)
      have F_18 : zk_fr fr_M_rains g0 g10 := zk_ft F F_17 (fun a i => (fun h => Or.elim h (fun h => (Or.inl h)) (fun h => Or.elim h (fun h => (Or.inr (Or.inl h))) (fun h => Or.elim h (fun h => (Or.inr (Or.inr (Or.inl h)))) (fun h => Or.elim h (fun h => (Or.inr (Or.inr (Or.inr (Or.inl h))))) (fun h => Or.elim h (fun h => (Or.inr (Or.inr (Or.inr (Or.inr (Or.inl h)))))) (fun h => Or.elim h (fun h => (Or.inr (Or.inr (Or.inr (Or.inr (Or.inr (Or.inl h))))))) (fun h => Or.elim h (fun h => (Or.inr (Or.inr (Or.inr (Or.inr (Or.inr (Or.inr (Or.inl h)))))))) (fun h => Or.elim h (fun h => (Or.inr (Or.inr (Or.inr (Or.inr (Or.inr (Or.inr (Or.inr (Or.inr (Or.inl h)))))))))) (fun h => Or.elim h (fun h => (Or.inr (Or.inr (Or.inr (Or.inr (Or.inr (Or.inr (Or.inr (Or.inr (Or.inr (Or.inl h))))))))))) (fun h => Or.elim h (fun h => (Or.inr (Or.inr (Or.inr (Or.inr (Or.inr (Or.inr (Or.inr (Or.inr (Or.inr (Or.inr (Or.inl h)))))))))))) (fun h => Or.elim h (fun h => (Or.inr (Or.inr (Or.inr (Or.inr (Or.inr (Or.inr (Or.inr (Or.inr (Or.inr (Or.inr (Or.inr (Or.inl h))))))))))))) (fun h => Or.elim h (fun h => (Or.inr (Or.inr (Or.inr (Or.inr (Or.inr (Or.inr (Or.inr (Or.inr (Or.inr (Or.inr (Or.inr (Or.inr (Or.inl h)))))))))))))) (fun h => (Or.inr (Or.inr (Or.inr (Or.inr (Or.inr (Or.inr (Or.inr (Or.inr (Or.inr (Or.inr (Or.inr (Or.inr (Or.inr h)))))))))))))))))))))))))))
      have m_19 : 0 ≤ (g10 214 43) ∧ (g10 214 43) ≤ 90 := I_16.1 214 43
      have m_20 := zk_now26 I_16 (i := (26 + l2)) (by omega)
      exact k_M_rains_l56 q2 q3 hK73 hQ n I_16 F_18 ⟨by omega, by omega⟩ (by omega) (by omega) (by omega) (by omega)
set_option maxRecDepth 100000 in
set_option maxHeartbeats 4000000 in
theorem k_M_rains_l14 {K79 : zi_M → Prop} {Q : Int → zi_M → Prop} {g0 : zi_M} (hK79 : ∀ (g : zi_M), zk_I g → zk_fr fr_M_rains g0 g → K79 g) (hQ : ∀ (v : Int) (g' : zi_M), zk_I g' → zk_fr fr_M_rains g0 g' → ((-2147483648) ≤ v ∧ v ≤ 2147483647) → Q v g') : ∀ (n : Nat) {l2 : Int} {g : zi_M}, zk_I g → zk_fr fr_M_rains g0 g → (0 ≤ l2 ∧ l2 ≤ 10) → (g 214 43 ≤ 9 * l2) → 10 - l2 < (n : Int) → w_M_rains_l14 K79 Q n l2 g
  | 0, l2, g, I, F, b0, b1, hm => by exfalso; omega
  | n + 1, l2, g, I, F, b0, b1, hm => by
    unfold w_M_rains_l14
    have m_4 : 0 ≤ (g 214 6) ∧ (g 214 6) ≤ 10 := I.1 214 6
    refine ⟨⟨by omega, by omega⟩, ⟨by omega, by omega⟩, ?_⟩
    refine ⟨fun c25 => ?_, fun c25 => ?_⟩
    · exact hK79 _ I F
    · have m_9 := zk_now6 I (i := (6 + l2)) (by omega)
      have m_10 := zk_rng I 215 3
      refine k_M_canSay I ⟨by omega, by omega⟩ (fun v4 b_5 b_6 b_7 b_8 => ?_)
      refine ⟨fun c24 => ?_, fun c24 => ?_⟩
      · have m_25 : 0 ≤ (g 214 43) ∧ (g 214 43) ≤ 90 := I.1 214 43
        have m_26 := zk_now26 I (i := (26 + l2)) (by omega)
        refine ⟨((9 - 0 : Int).toNat + 1), k_M_rains_l56 (l2 := l2) (l3 := 0) ⟨by omega, by omega⟩ ⟨by omega, by omega⟩ (fun g13 I_21 F_22 b_23 => ?_) hQ ((9 - 0 : Int).toNat + 1) I F ⟨by omega, by omega⟩ (by omega) (by omega) (by omega) (by omega)⟩
        have m_24 : 0 ≤ (g13 214 43) ∧ (g13 214 43) ≤ 90 := I_21.1 214 43
        exact k_M_rains_l14 hK79 hQ n I_21 F_22 ⟨by omega, by omega⟩ (by omega) (by omega)
      · refine ⟨⟨by omega, by omega⟩, ?_⟩
        refine k_M_jetOf I ⟨by omega, by omega⟩ (fun v16 g17 I_28 F_29 b_27 => ?_)
        have F_30 : zk_fr fr_M_rains g0 g17 := zk_ft F F_29 (fun a i => (fun h => Or.elim h (fun h => (Or.inr (Or.inl h))) (fun h => (Or.inr (Or.inr (Or.inl h))))))
        have m_31 := zk_now26 I (i := (26 + l2)) (by omega)
        refine k_M_lesser I_28 ⟨by omega, by omega⟩ ⟨by omega, by omega⟩ (fun v19 b_32 b_33 => ?_)
        have m_38 : 0 ≤ (g17 214 43) ∧ (g17 214 43) ≤ 90 := I_28.1 214 43
        have m_39 : g17 214 43 = g 214 43 := F_29 _ _ (by unfold fr_M_jetOf; omega)
        have m_40 : 0 ≤ (g 214 43) ∧ (g 214 43) ≤ 90 := I.1 214 43
        have m_41 := zk_now26 I_28 (i := (26 + l2)) (by omega)
        have m_42 : g17 215 (26 + l2) = g 215 (26 + l2) := F_29 _ _ (by unfold fr_M_jetOf; omega)
        refine ⟨((9 - 0 : Int).toNat + 1), k_M_rains_l56 (l2 := l2) (l3 := v19) ⟨by omega, by omega⟩ ⟨by omega, by omega⟩ (fun g22 I_34 F_35 b_36 => ?_) hQ ((9 - 0 : Int).toNat + 1) I_28 F_30 ⟨by omega, by omega⟩ (by omega) (by omega) (by omega) (by omega)⟩
        have m_37 : 0 ≤ (g22 214 43) ∧ (g22 214 43) ≤ 90 := I_34.1 214 43
        exact k_M_rains_l14 hK79 hQ n I_34 F_35 ⟨by omega, by omega⟩ (by omega) (by omega)
set_option maxRecDepth 100000 in
set_option maxHeartbeats 4000000 in
theorem k_M_rains_l81 {K149 : zi_M → Prop} {Q : Int → zi_M → Prop} {g0 : zi_M} (hK149 : ∀ (g : zi_M), zk_I g → zk_fr fr_M_rains g0 g → K149 g) (hQ : ∀ (v : Int) (g' : zi_M), zk_I g' → zk_fr fr_M_rains g0 g' → ((-2147483648) ≤ v ∧ v ≤ 2147483647) → Q v g') : ∀ (n : Nat) {l2 : Int} {g : zi_M}, zk_I g → zk_fr fr_M_rains g0 g → (0 ≤ l2 ∧ l2 ≤ 90) → 90 - l2 < (n : Int) → w_M_rains_l81 K149 Q n l2 g
  | 0, l2, g, I, F, b0, hm => by exfalso; omega
  | n + 1, l2, g, I, F, b0, hm => by
    unfold w_M_rains_l81
    have m_45 : 0 ≤ (g 214 43) ∧ (g 214 43) ≤ 90 := I.1 214 43
    refine ⟨⟨by omega, by omega⟩, ⟨by omega, by omega⟩, ?_⟩
    refine ⟨fun c40 => ?_, fun c40 => ?_⟩
    · exact hK149 _ I F
    · refine ⟨⟨by omega, by omega⟩, ?_⟩
      have m_46 : 0 ≤ (g 237 l2) ∧ (g 237 l2) ≤ 9 := I.1 237 l2
      refine ⟨⟨by omega, by omega⟩, ?_⟩
      have m_47 := zk_now6 I (i := (6 + (g 237 l2))) (by omega)
      refine ⟨⟨by omega, by omega⟩, ?_⟩
      refine ⟨fun c39 => ?_, fun c39 => ?_⟩
      · exact k_M_rains_l81 hK149 hQ n I F ⟨by omega, by omega⟩ (by omega)
      · have m_48 : 0 ≤ (g 238 l2) ∧ (g 238 l2) ≤ 15 := I.1 238 l2
        refine k_M_comesTo I ⟨by omega, by omega⟩ ⟨by omega, by omega⟩ (fun v32 g33 I_50 F_51 b_49 => ?_)
        have F_52 : zk_fr fr_M_rains g0 g33 := zk_ft F F_51 (fun a i => (fun h => Or.elim h (fun h => (Or.inr (Or.inr (Or.inr (Or.inr (Or.inr (Or.inr (Or.inr (Or.inr (Or.inr (Or.inr (Or.inl h)))))))))))) (fun h => (Or.inr (Or.inr (Or.inr (Or.inr (Or.inr (Or.inr (Or.inr (Or.inr (Or.inr (Or.inr (Or.inr (Or.inl h)))))))))))))))
        refine ⟨fun c38 => ?_, fun c38 => ?_⟩
        · exact k_M_rains_l81 hK149 hQ n I_50 F_52 ⟨by omega, by omega⟩ (by omega)
        · have m_53 : 0 ≤ (g33 237 l2) ∧ (g33 237 l2) ≤ 9 := I_50.1 237 l2
          have m_54 : g33 237 l2 = g 237 l2 := F_51 _ _ (by unfold fr_M_comesTo; omega)
          have m_55 : 0 ≤ (g33 238 l2) ∧ (g33 238 l2) ≤ 15 := I_50.1 238 l2
          have m_56 : g33 238 l2 = g 238 l2 := F_51 _ _ (by unfold fr_M_comesTo; omega)
          refine k_M_notes I_50 ⟨by omega, by omega⟩ ⟨by omega, by omega⟩ ⟨by omega, by omega⟩ (fun g36 I_57 F_58 => ?_)
          have F_59 : zk_fr fr_M_rains g0 g36 := zk_ft F_52 F_58 (fun a i => (fun h => Or.elim h (fun h => (Or.inl h)) (fun h => (Or.inr (Or.inr (Or.inr (Or.inr (Or.inr (Or.inr (Or.inr (Or.inr (Or.inl h))))))))))))
          exact k_M_rains_l81 hK149 hQ n I_57 F_59 ⟨by omega, by omega⟩ (by omega)
set_option maxRecDepth 100000 in
set_option maxHeartbeats 4000000 in
theorem k_M_rains_l151 {K175 : zi_M → Prop} {Q : Int → zi_M → Prop} {g0 : zi_M} (hK175 : ∀ (g : zi_M), zk_I g → zk_fr fr_M_rains g0 g → K175 g) (hQ : ∀ (v : Int) (g' : zi_M), zk_I g' → zk_fr fr_M_rains g0 g' → ((-2147483648) ≤ v ∧ v ≤ 2147483647) → Q v g') : ∀ (n : Nat) {l2 : Int} {g : zi_M}, zk_I g → zk_fr fr_M_rains g0 g → (0 ≤ l2 ∧ l2 ≤ 10) → 10 - l2 < (n : Int) → w_M_rains_l151 K175 Q n l2 g
  | 0, l2, g, I, F, b0, hm => by exfalso; omega
  | n + 1, l2, g, I, F, b0, hm => by
    unfold w_M_rains_l151
    have m_62 : 0 ≤ (g 214 6) ∧ (g 214 6) ≤ 10 := I.1 214 6
    refine ⟨⟨by omega, by omega⟩, ⟨by omega, by omega⟩, ?_⟩
    refine ⟨fun c46 => ?_, fun c46 => ?_⟩
    · exact hK175 _ I F
    · refine ⟨⟨by omega, by omega⟩, ?_⟩
      intro g45 e_63
      have I_64 : zk_I g45 := by rw [e_63]; exact zk_upd (zk_nl16 (i := 16 + l2) (by omega)).1 (zk_nl16 (i := 16 + l2) (by omega)).2 I ⟨by omega, by omega⟩
      have F_65 : zk_fr fr_M_rains g0 g45 := by rw [e_63]; exact zk_fu F (Or.inr (Or.inr (Or.inr (Or.inr (Or.inr (Or.inr (Or.inr (Or.inl ⟨rfl, by omega, by omega⟩))))))))
      exact k_M_rains_l151 hK175 hQ n I_64 F_65 ⟨by omega, by omega⟩ (by omega)
set_option maxRecDepth 100000 in
set_option maxHeartbeats 4000000 in
theorem k_M_rains {g : zi_M} {Q : Int → zi_M → Prop} (I : zk_I g) (hQ : ∀ (v : Int) (g' : zi_M), zk_I g' → zk_fr fr_M_rains g g' → ((-2147483648) ≤ v ∧ v ≤ 2147483647) → Q v g') : w_M_rains g Q := by
  unfold w_M_rains
  intro g1 e_1
  have I_2 : zk_I g1 := by rw [e_1]; exact zk_upd (L := 0) (H := 90) rfl rfl I ⟨by omega, by omega⟩
  have F_3 : zk_fr fr_M_rains g g1 := by rw [e_1]; exact zk_fu (zk_f0 _) (Or.inr (Or.inr (Or.inr (Or.inr (Or.inr (Or.inl ⟨rfl, rfl⟩))))))
  have m_71 : 0 ≤ (g1 214 43) ∧ (g1 214 43) ≤ 90 := I_2.1 214 43
  have m_72 : g1 214 43 = 0 := by rw [e_1]; exact zi_u_eq
  refine ⟨((10 - 0 : Int).toNat + 1), k_M_rains_l14 (fun g26 I_43 F_44 => ?_) hQ ((10 - 0 : Int).toNat + 1) I_2 F_3 ⟨by omega, by omega⟩ (by omega) (by omega)⟩
  refine ⟨((90 - 0 : Int).toNat + 1), k_M_rains_l81 (fun g41 I_60 F_61 => ?_) hQ ((90 - 0 : Int).toNat + 1) I_43 F_44 ⟨by omega, by omega⟩ (by omega)⟩
  refine ⟨((10 - 0 : Int).toNat + 1), k_M_rains_l151 (fun g47 I_66 F_67 => ?_) hQ ((10 - 0 : Int).toNat + 1) I_60 F_61 ⟨by omega, by omega⟩ (by omega)⟩
  have m_68 := zk_rng I_66 215 4
  have m_69 := zk_rng I 215 4
  have m_70 := zi_r_w ((g47 215 4) - (g 215 4))
  exact hQ _ _ I_66 F_67 ⟨by omega, by omega⟩
-- SpoutNewsModel.goesBy()I
noncomputable def fr_M_goesBy (a : Nat) (i : Int) : Prop := a = 221 ∨ a = 235 ∨ a = 236 ∨ a = 237 ∨ a = 238 ∨ (a = 214 ∧ i = 43) ∨ (a = 215 ∧ 0 ≤ i ∧ i < 1) ∨ (a = 215 ∧ 1 ≤ i ∧ i < 2) ∨ (a = 215 ∧ 16 ≤ i ∧ i < 26) ∨ (a = 215 ∧ 2 ≤ i ∧ i < 3) ∨ (a = 215 ∧ 236 ≤ i ∧ i < 244) ∨ (a = 215 ∧ 244 ≤ i ∧ i < 252) ∨ (a = 215 ∧ 252 ≤ i ∧ i < 258) ∨ (a = 215 ∧ 258 ≤ i ∧ i < 264) ∨ (a = 215 ∧ 26 ≤ i ∧ i < 36) ∨ (a = 215 ∧ 3 ≤ i ∧ i < 4) ∨ (a = 215 ∧ 36 ≤ i ∧ i < 236) ∨ (a = 215 ∧ 4 ≤ i ∧ i < 5) ∨ (a = 215 ∧ 5 ≤ i ∧ i < 6) ∨ (a = 215 ∧ 6 ≤ i ∧ i < 16)
set_option maxRecDepth 100000 in
set_option maxHeartbeats 4000000 in
theorem k_M_goesBy_l2 {K67 : zi_M → Prop} {Q : Int → zi_M → Prop} {g0 : zi_M} (hK67 : ∀ (g : zi_M), zk_I g → zk_fr fr_M_goesBy g0 g → K67 g) (hQ : ∀ (v : Int) (g' : zi_M), zk_I g' → zk_fr fr_M_goesBy g0 g' → ((-2147483648) ≤ v ∧ v ≤ 2147483647) → Q v g') : ∀ (n : Nat) {l1 : Int} {g : zi_M}, zk_I g → zk_fr fr_M_goesBy g0 g → (0 ≤ l1 ∧ l1 ≤ 16) → 16 - l1 < (n : Int) → w_M_goesBy_l2 K67 Q n l1 g
  | 0, l1, g, I, F, b0, hm => by exfalso; omega
  | n + 1, l1, g, I, F, b0, hm => by
    unfold w_M_goesBy_l2
    have m_1 : 0 ≤ (g 214 39) ∧ (g 214 39) ≤ 16 := I.1 214 39
    refine ⟨⟨by omega, by omega⟩, ⟨by omega, by omega⟩, ?_⟩
    refine ⟨fun c13 => ?_, fun c13 => ?_⟩
    · exact hK67 _ I F
    · refine ⟨⟨by omega, by omega⟩, ?_⟩
      have m_2 : (-2147483648) ≤ (g 234 (4 * l1)) ∧ (g 234 (4 * l1)) ≤ 2147483647 := I.1 234 (4 * l1)
      have m_3 := zk_rng I 215 0
      refine ⟨⟨by omega, by omega⟩, ⟨by omega, by omega⟩, ?_⟩
      refine ⟨fun c12 => ?_, fun c12 => ?_⟩
      · exact k_M_goesBy_l2 hK67 hQ n I F ⟨by omega, by omega⟩ (by omega)
      · refine ⟨⟨by omega, by omega⟩, ?_⟩
        refine ⟨⟨by omega, by omega⟩, ?_⟩
        refine ⟨⟨by omega, by omega⟩, ?_⟩
        have m_4 : (-2147483648) ≤ (g 234 ((4 * l1) + 1)) ∧ (g 234 ((4 * l1) + 1)) ≤ 2147483647 := I.1 234 ((4 * l1) + 1)
        have m_5 : (-2147483648) ≤ (g 234 ((4 * l1) + 2)) ∧ (g 234 ((4 * l1) + 2)) ≤ 2147483647 := I.1 234 ((4 * l1) + 2)
        have m_6 : (-2147483648) ≤ (g 234 ((4 * l1) + 3)) ∧ (g 234 ((4 * l1) + 3)) ≤ 2147483647 := I.1 234 ((4 * l1) + 3)
        have hj := I.2.deeds l1 (by omega) (by omega)
        unfold zj_deed at hj
        refine k_M_acts I ⟨by omega, by omega⟩ ⟨by omega, by omega⟩ ⟨by omega, by omega⟩ (by omega) (by omega) (by omega) (by omega) (by omega) (by omega) (fun g10 I_7 F_8 => ?_)
        have F_9 : zk_fr fr_M_goesBy g0 g10 := zk_ft F F_8 (fun a i => (fun h => Or.elim h (fun h => (Or.inr (Or.inr (Or.inr (Or.inr (Or.inr (Or.inr (Or.inr (Or.inr (Or.inr (Or.inr (Or.inl h)))))))))))) (fun h => Or.elim h (fun h => (Or.inr (Or.inr (Or.inr (Or.inr (Or.inr (Or.inr (Or.inr (Or.inr (Or.inr (Or.inr (Or.inr (Or.inl h))))))))))))) (fun h => Or.elim h (fun h => (Or.inr (Or.inr (Or.inr (Or.inr (Or.inr (Or.inr (Or.inr (Or.inr (Or.inr (Or.inr (Or.inr (Or.inr (Or.inl h)))))))))))))) (fun h => Or.elim h (fun h => (Or.inr (Or.inr (Or.inr (Or.inr (Or.inr (Or.inr (Or.inr (Or.inr (Or.inr (Or.inr (Or.inr (Or.inr (Or.inr (Or.inl h))))))))))))))) (fun h => (Or.inr (Or.inr (Or.inr (Or.inr (Or.inr (Or.inr (Or.inr (Or.inr (Or.inr (Or.inr (Or.inr (Or.inr (Or.inr (Or.inr (Or.inr (Or.inr (Or.inr (Or.inr (Or.inr h)))))))))))))))))))))))))
        exact k_M_goesBy_l2 hK67 hQ n I_7 F_9 ⟨by omega, by omega⟩ (by omega)
set_option maxRecDepth 100000 in
set_option maxHeartbeats 4000000 in
theorem k_M_goesBy_l118 {K137 : zi_M → Prop} {Q : Int → zi_M → Prop} {g0 : zi_M} (hK137 : ∀ (g : zi_M), zk_I g → zk_fr fr_M_goesBy g0 g → K137 g) (hQ : ∀ (v : Int) (g' : zi_M), zk_I g' → zk_fr fr_M_goesBy g0 g' → ((-2147483648) ≤ v ∧ v ≤ 2147483647) → Q v g') : ∀ (n : Nat) {l2 : Int} {g : zi_M}, zk_I g → zk_fr fr_M_goesBy g0 g → (0 ≤ l2 ∧ l2 ≤ 10) → 10 - l2 < (n : Int) → w_M_goesBy_l118 K137 Q n l2 g
  | 0, l2, g, I, F, b0, hm => by exfalso; omega
  | n + 1, l2, g, I, F, b0, hm => by
    unfold w_M_goesBy_l118
    have m_15 : 0 ≤ (g 214 6) ∧ (g 214 6) ≤ 10 := I.1 214 6
    refine ⟨⟨by omega, by omega⟩, ⟨by omega, by omega⟩, ?_⟩
    refine ⟨fun c25 => ?_, fun c25 => ?_⟩
    · exact hK137 _ I F
    · refine k_M_isDry I ⟨by omega, by omega⟩ (fun g23 I_16 F_17 => ?_)
      have F_18 : zk_fr fr_M_goesBy g0 g23 := zk_ft F F_17 (fun a i => (fun h => Or.elim h (fun h => (Or.inl h)) (fun h => Or.elim h (fun h => (Or.inr (Or.inl h))) (fun h => Or.elim h (fun h => (Or.inr (Or.inr (Or.inl h)))) (fun h => Or.elim h (fun h => (Or.inr (Or.inr (Or.inr (Or.inr (Or.inr (Or.inr (Or.inr (Or.inr (Or.inl h)))))))))) (fun h => Or.elim h (fun h => (Or.inr (Or.inr (Or.inr (Or.inr (Or.inr (Or.inr (Or.inr (Or.inr (Or.inr (Or.inl h))))))))))) (fun h => Or.elim h (fun h => (Or.inr (Or.inr (Or.inr (Or.inr (Or.inr (Or.inr (Or.inr (Or.inr (Or.inr (Or.inr (Or.inr (Or.inr (Or.inr (Or.inr (Or.inl h)))))))))))))))) (fun h => (Or.inr (Or.inr (Or.inr (Or.inr (Or.inr (Or.inr (Or.inr (Or.inr (Or.inr (Or.inr (Or.inr (Or.inr (Or.inr (Or.inr (Or.inr (Or.inr (Or.inl h)))))))))))))))))))))))))
      exact k_M_goesBy_l118 hK137 hQ n I_16 F_18 ⟨by omega, by omega⟩ (by omega)
set_option maxRecDepth 100000 in
set_option maxHeartbeats 4000000 in
theorem k_M_goesBy_b137 {l1 : Int} {Q : Int → zi_M → Prop} {g : zi_M} {g0 : zi_M} (I : zk_I g) (F : zk_fr fr_M_goesBy g0 g) (p1 : (-2147483648) ≤ l1 ∧ l1 ≤ 2147483647) (hQ : ∀ (v : Int) (g' : zi_M), zk_I g' → zk_fr fr_M_goesBy g0 g' → ((-2147483648) ≤ v ∧ v ≤ 2147483647) → Q v g') : w_M_goesBy_b137 l1 g Q := by
  unfold w_M_goesBy_b137
  have m_24 := zk_rng I 215 0
  have m_25 := zi_r_w ((g 215 0) + 1)
  intro g27 e_21
  have I_22 : zk_I g27 := by rw [e_21]; exact zk_upd (zk_nl0 (i := 0) (by omega)).1 (zk_nl0 (i := 0) (by omega)).2 I ⟨by omega, by omega⟩
  have F_23 : zk_fr fr_M_goesBy g0 g27 := by rw [e_21]; exact zk_fu F (Or.inr (Or.inr (Or.inr (Or.inr (Or.inr (Or.inr (Or.inl ⟨rfl, by omega, by omega⟩)))))))
  exact hQ _ _ I_22 F_23 ⟨by omega, by omega⟩
set_option maxRecDepth 100000 in
set_option maxHeartbeats 4000000 in
theorem k_M_goesBy_b97 {Q : Int → zi_M → Prop} {g : zi_M} {g0 : zi_M} (I : zk_I g) (F : zk_fr fr_M_goesBy g0 g) (hQ : ∀ (v : Int) (g' : zi_M), zk_I g' → zk_fr fr_M_goesBy g0 g' → ((-2147483648) ≤ v ∧ v ≤ 2147483647) → Q v g') : w_M_goesBy_b97 g Q := by
  unfold w_M_goesBy_b97
  have m_14 := zk_rng I 215 3
  refine ⟨⟨by omega, by omega⟩, ?_⟩
  refine ⟨fun c32 => ?_, fun c32 => ?_⟩
  · refine ⟨((10 - 0 : Int).toNat + 1), k_M_goesBy_l118 (fun g26 I_19 F_20 => ?_) hQ ((10 - 0 : Int).toNat + 1) I F ⟨by omega, by omega⟩ (by omega)⟩
    exact k_M_goesBy_b137 I_19 F_20 ⟨by omega, by omega⟩ hQ
  · refine k_M_rains I (fun v29 g30 I_27 F_28 b_26 => ?_)
    have F_29 : zk_fr fr_M_goesBy g0 g30 := zk_ft F F_28 (fun a i => (fun h => Or.elim h (fun h => (Or.inl h)) (fun h => Or.elim h (fun h => (Or.inr (Or.inl h))) (fun h => Or.elim h (fun h => (Or.inr (Or.inr (Or.inl h)))) (fun h => Or.elim h (fun h => (Or.inr (Or.inr (Or.inr (Or.inl h))))) (fun h => Or.elim h (fun h => (Or.inr (Or.inr (Or.inr (Or.inr (Or.inl h)))))) (fun h => Or.elim h (fun h => (Or.inr (Or.inr (Or.inr (Or.inr (Or.inr (Or.inl h))))))) (fun h => Or.elim h (fun h => (Or.inr (Or.inr (Or.inr (Or.inr (Or.inr (Or.inr (Or.inr (Or.inl h))))))))) (fun h => Or.elim h (fun h => (Or.inr (Or.inr (Or.inr (Or.inr (Or.inr (Or.inr (Or.inr (Or.inr (Or.inl h)))))))))) (fun h => Or.elim h (fun h => (Or.inr (Or.inr (Or.inr (Or.inr (Or.inr (Or.inr (Or.inr (Or.inr (Or.inr (Or.inl h))))))))))) (fun h => Or.elim h (fun h => (Or.inr (Or.inr (Or.inr (Or.inr (Or.inr (Or.inr (Or.inr (Or.inr (Or.inr (Or.inr (Or.inr (Or.inr (Or.inr (Or.inl h))))))))))))))) (fun h => Or.elim h (fun h => (Or.inr (Or.inr (Or.inr (Or.inr (Or.inr (Or.inr (Or.inr (Or.inr (Or.inr (Or.inr (Or.inr (Or.inr (Or.inr (Or.inr (Or.inl h)))))))))))))))) (fun h => Or.elim h (fun h => (Or.inr (Or.inr (Or.inr (Or.inr (Or.inr (Or.inr (Or.inr (Or.inr (Or.inr (Or.inr (Or.inr (Or.inr (Or.inr (Or.inr (Or.inr (Or.inr (Or.inl h)))))))))))))))))) (fun h => Or.elim h (fun h => (Or.inr (Or.inr (Or.inr (Or.inr (Or.inr (Or.inr (Or.inr (Or.inr (Or.inr (Or.inr (Or.inr (Or.inr (Or.inr (Or.inr (Or.inr (Or.inr (Or.inr (Or.inl h))))))))))))))))))) (fun h => (Or.inr (Or.inr (Or.inr (Or.inr (Or.inr (Or.inr (Or.inr (Or.inr (Or.inr (Or.inr (Or.inr (Or.inr (Or.inr (Or.inr (Or.inr (Or.inr (Or.inr (Or.inr (Or.inl h))))))))))))))))))))))))))))))))))
    exact k_M_goesBy_b137 I_27 F_29 ⟨by omega, by omega⟩ hQ
set_option maxRecDepth 100000 in
set_option maxHeartbeats 4000000 in
theorem k_M_goesBy {g : zi_M} {Q : Int → zi_M → Prop} (I : zk_I g) (hQ : ∀ (v : Int) (g' : zi_M), zk_I g' → zk_fr fr_M_goesBy g g' → ((-2147483648) ≤ v ∧ v ≤ 2147483647) → Q v g') : w_M_goesBy g Q := by
  unfold w_M_goesBy
  refine ⟨((16 - 0 : Int).toNat + 1), k_M_goesBy_l2 (fun g14 I_10 F_11 => ?_) hQ ((16 - 0 : Int).toNat + 1) I (zk_f0 _) ⟨by omega, by omega⟩ (by omega)⟩
  have m_12 := zk_rng I_10 215 0
  refine k_M_weatherOf I_10 ⟨by omega, by omega⟩ (fun v15 b_13 => ?_)
  refine ⟨⟨by omega, by omega⟩, ?_⟩
  refine ⟨fun c37 => ?_, fun c37 => ?_⟩
  · exact k_M_goesBy_b97 I_10 F_11 hQ
  · refine k_M_weatherOf I_10 ⟨by omega, by omega⟩ (fun v33 b_30 => ?_)
    intro g36 e_31
    have I_32 : zk_I g36 := by rw [e_31]; exact zk_upd (zk_nl3 (i := 3) (by omega)).1 (zk_nl3 (i := 3) (by omega)).2 I_10 ⟨by omega, by omega⟩
    have F_33 : zk_fr fr_M_goesBy g g36 := by rw [e_31]; exact zk_fu F_11 (Or.inr (Or.inr (Or.inr (Or.inr (Or.inr (Or.inr (Or.inr (Or.inr (Or.inr (Or.inr (Or.inr (Or.inr (Or.inr (Or.inr (Or.inr (Or.inl ⟨rfl, by omega, by omega⟩))))))))))))))))
    exact k_M_goesBy_b97 I_32 F_33 hQ
-- SpoutNewsModel.days(I)I
noncomputable def fr_M_days (a : Nat) (i : Int) : Prop := a = 216 ∨ a = 221 ∨ a = 235 ∨ a = 236 ∨ a = 237 ∨ a = 238 ∨ (a = 214 ∧ i = 0) ∨ (a = 214 ∧ i = 3) ∨ (a = 214 ∧ i = 43) ∨ (a = 215 ∧ 0 ≤ i ∧ i < 1) ∨ (a = 215 ∧ 1 ≤ i ∧ i < 2) ∨ (a = 215 ∧ 16 ≤ i ∧ i < 26) ∨ (a = 215 ∧ 2 ≤ i ∧ i < 3) ∨ (a = 215 ∧ 236 ≤ i ∧ i < 244) ∨ (a = 215 ∧ 244 ≤ i ∧ i < 252) ∨ (a = 215 ∧ 252 ≤ i ∧ i < 258) ∨ (a = 215 ∧ 258 ≤ i ∧ i < 264) ∨ (a = 215 ∧ 26 ≤ i ∧ i < 36) ∨ (a = 215 ∧ 3 ≤ i ∧ i < 4) ∨ (a = 215 ∧ 36 ≤ i ∧ i < 236) ∨ (a = 215 ∧ 4 ≤ i ∧ i < 5) ∨ (a = 215 ∧ 5 ≤ i ∧ i < 6) ∨ (a = 215 ∧ 6 ≤ i ∧ i < 16)
set_option maxRecDepth 100000 in
set_option maxHeartbeats 4000000 in
theorem k_M_days_l36 {l1 : Int} {K58 : Int → zi_M → Prop} {Q : Int → zi_M → Prop} {g0 : zi_M} (q1 : 1 ≤ l1 ∧ l1 ≤ 60) (hK58 : ∀ (k2 : Int) (g : zi_M), zk_I g → zk_fr fr_M_days g0 g → ((-2147483648) ≤ k2 ∧ k2 ≤ 2147483647) → K58 k2 g) (hQ : ∀ (v : Int) (g' : zi_M), zk_I g' → zk_fr fr_M_days g0 g' → ((-2147483648) ≤ v ∧ v ≤ 2147483647) → Q v g') : ∀ (n : Nat) {l2 : Int} {l3 : Int} {g : zi_M}, zk_I g → zk_fr fr_M_days g0 g → ((-2147483648) ≤ l2 ∧ l2 ≤ 2147483647) → (0 ≤ l3 ∧ l3 ≤ 60) → 60 - l3 < (n : Int) → w_M_days_l36 l1 K58 Q n l2 l3 g
  | 0, l2, l3, g, I, F, b0, b1, hm => by exfalso; omega
  | n + 1, l2, l3, g, I, F, b0, b1, hm => by
    unfold w_M_days_l36
    refine ⟨⟨by omega, by omega⟩, ⟨by omega, by omega⟩, ?_⟩
    refine ⟨fun c13 => ?_, fun c13 => ?_⟩
    · exact hK58 _ _ I F ⟨by omega, by omega⟩
    · refine k_M_keepsAhead I (fun g8 I_11 F_12 => ?_)
      have F_13 : zk_fr fr_M_days g0 g8 := zk_ft F F_12 (fun a i => (fun h => Or.elim h (fun h => (Or.inl h)) (fun h => (Or.inr (Or.inr (Or.inr (Or.inr (Or.inr (Or.inr (Or.inr (Or.inl h)))))))))))
      refine k_M_goesBy I_11 (fun v10 g11 I_15 F_16 b_14 => ?_)
      have F_17 : zk_fr fr_M_days g0 g11 := zk_ft F_13 F_16 (fun a i => (fun h => Or.elim h (fun h => (Or.inr (Or.inl h))) (fun h => Or.elim h (fun h => (Or.inr (Or.inr (Or.inl h)))) (fun h => Or.elim h (fun h => (Or.inr (Or.inr (Or.inr (Or.inl h))))) (fun h => Or.elim h (fun h => (Or.inr (Or.inr (Or.inr (Or.inr (Or.inl h)))))) (fun h => Or.elim h (fun h => (Or.inr (Or.inr (Or.inr (Or.inr (Or.inr (Or.inl h))))))) (fun h => Or.elim h (fun h => (Or.inr (Or.inr (Or.inr (Or.inr (Or.inr (Or.inr (Or.inr (Or.inr (Or.inl h)))))))))) (fun h => Or.elim h (fun h => (Or.inr (Or.inr (Or.inr (Or.inr (Or.inr (Or.inr (Or.inr (Or.inr (Or.inr (Or.inl h))))))))))) (fun h => Or.elim h (fun h => (Or.inr (Or.inr (Or.inr (Or.inr (Or.inr (Or.inr (Or.inr (Or.inr (Or.inr (Or.inr (Or.inl h)))))))))))) (fun h => Or.elim h (fun h => (Or.inr (Or.inr (Or.inr (Or.inr (Or.inr (Or.inr (Or.inr (Or.inr (Or.inr (Or.inr (Or.inr (Or.inl h))))))))))))) (fun h => Or.elim h (fun h => (Or.inr (Or.inr (Or.inr (Or.inr (Or.inr (Or.inr (Or.inr (Or.inr (Or.inr (Or.inr (Or.inr (Or.inr (Or.inl h)))))))))))))) (fun h => Or.elim h (fun h => (Or.inr (Or.inr (Or.inr (Or.inr (Or.inr (Or.inr (Or.inr (Or.inr (Or.inr (Or.inr (Or.inr (Or.inr (Or.inr (Or.inl h))))))))))))))) (fun h => Or.elim h (fun h => (Or.inr (Or.inr (Or.inr (Or.inr (Or.inr (Or.inr (Or.inr (Or.inr (Or.inr (Or.inr (Or.inr (Or.inr (Or.inr (Or.inr (Or.inl h)))))))))))))))) (fun h => Or.elim h (fun h => (Or.inr (Or.inr (Or.inr (Or.inr (Or.inr (Or.inr (Or.inr (Or.inr (Or.inr (Or.inr (Or.inr (Or.inr (Or.inr (Or.inr (Or.inr (Or.inl h))))))))))))))))) (fun h => Or.elim h (fun h => (Or.inr (Or.inr (Or.inr (Or.inr (Or.inr (Or.inr (Or.inr (Or.inr (Or.inr (Or.inr (Or.inr (Or.inr (Or.inr (Or.inr (Or.inr (Or.inr (Or.inl h)))))))))))))))))) (fun h => Or.elim h (fun h => (Or.inr (Or.inr (Or.inr (Or.inr (Or.inr (Or.inr (Or.inr (Or.inr (Or.inr (Or.inr (Or.inr (Or.inr (Or.inr (Or.inr (Or.inr (Or.inr (Or.inr (Or.inl h))))))))))))))))))) (fun h => Or.elim h (fun h => (Or.inr (Or.inr (Or.inr (Or.inr (Or.inr (Or.inr (Or.inr (Or.inr (Or.inr (Or.inr (Or.inr (Or.inr (Or.inr (Or.inr (Or.inr (Or.inr (Or.inr (Or.inr (Or.inl h)))))))))))))))))))) (fun h => Or.elim h (fun h => (Or.inr (Or.inr (Or.inr (Or.inr (Or.inr (Or.inr (Or.inr (Or.inr (Or.inr (Or.inr (Or.inr (Or.inr (Or.inr (Or.inr (Or.inr (Or.inr (Or.inr (Or.inr (Or.inr (Or.inl h))))))))))))))))))))) (fun h => Or.elim h (fun h => (Or.inr (Or.inr (Or.inr (Or.inr (Or.inr (Or.inr (Or.inr (Or.inr (Or.inr (Or.inr (Or.inr (Or.inr (Or.inr (Or.inr (Or.inr (Or.inr (Or.inr (Or.inr (Or.inr (Or.inr (Or.inl h)))))))))))))))))))))) (fun h => Or.elim h (fun h => (Or.inr (Or.inr (Or.inr (Or.inr (Or.inr (Or.inr (Or.inr (Or.inr (Or.inr (Or.inr (Or.inr (Or.inr (Or.inr (Or.inr (Or.inr (Or.inr (Or.inr (Or.inr (Or.inr (Or.inr (Or.inr (Or.inl h))))))))))))))))))))))) (fun h => (Or.inr (Or.inr (Or.inr (Or.inr (Or.inr (Or.inr (Or.inr (Or.inr (Or.inr (Or.inr (Or.inr (Or.inr (Or.inr (Or.inr (Or.inr (Or.inr (Or.inr (Or.inr (Or.inr (Or.inr (Or.inr (Or.inr h)))))))))))))))))))))))))))))))))))))))))))
      have m_18 := zi_r_w (l2 + v10)
      exact k_M_days_l36 q1 hK58 hQ n I_15 F_17 ⟨by omega, by omega⟩ ⟨by omega, by omega⟩ (by omega)
set_option maxRecDepth 100000 in
set_option maxHeartbeats 4000000 in
theorem k_M_days {l1 : Int} {g : zi_M} {Q : Int → zi_M → Prop} (I : zk_I g) (p1 : (-2147483648) ≤ l1 ∧ l1 ≤ 2147483647) (hQ : ∀ (v : Int) (g' : zi_M), zk_I g' → zk_fr fr_M_days g g' → ((-2147483648) ≤ v ∧ v ≤ 2147483647) → Q v g') : w_M_days l1 g Q := by
  unfold w_M_days
  intro g1 e_1
  have I_2 : zk_I g1 := by rw [e_1]; exact zk_upd (L := (-2147483648)) (H := 2147483647) rfl rfl I ⟨by omega, by omega⟩
  have F_3 : zk_fr fr_M_days g g1 := by rw [e_1]; exact zk_fu (zk_f0 _) (Or.inr (Or.inr (Or.inr (Or.inr (Or.inr (Or.inr (Or.inl ⟨rfl, rfl⟩)))))))
  refine k_M_isIn I_2 ⟨by omega, by omega⟩ ⟨by omega, by omega⟩ ⟨by omega, by omega⟩ (fun v2 b_4 b_5 b_6 => ?_)
  refine ⟨fun c18 => ?_, fun c18 => ?_⟩
  · exact hQ _ _ I_2 F_3 ⟨by omega, by omega⟩
  · have m_7 := zk_rng I_2 215 0
    have m_8 : g1 215 0 = g 215 0 := by rw [e_1]; exact zi_u_ne (by decide)
    have m_9 := zk_rng I 215 0
    have m_10 := zi_r_w ((g1 215 0) + l1)
    refine ⟨fun c17 => ?_, fun c17 => ?_⟩
    · refine ⟨((60 - 0 : Int).toNat + 1), k_M_days_l36 (l1 := l1) ⟨by omega, by omega⟩ (fun k14 g15 I_19 F_20 b_21 => ?_) hQ ((60 - 0 : Int).toNat + 1) I_2 F_3 ⟨by omega, by omega⟩ ⟨by omega, by omega⟩ (by omega)⟩
      exact hQ _ _ I_19 F_20 ⟨by omega, by omega⟩
    · exact hQ _ _ I_2 F_3 ⟨by omega, by omega⟩
-- SpoutNews.feedFour(I)V
noncomputable def fr_S_feedFour (a : Nat) (i : Int) : Prop := a = 190 ∨ (a = 0 ∧ i = 8)
set_option maxRecDepth 100000 in
set_option maxHeartbeats 4000000 in
theorem k_S_feedFour_l3 {l1 : Int} {K49 : zi_M → Prop} {Q : Int → zi_M → Prop} {g0 : zi_M} (q1 : (-2147483648) ≤ l1 ∧ l1 ≤ 2147483647) (hK49 : ∀ (g : zi_M), zk_I g → zk_fr fr_S_feedFour g0 g → (g0 0 8 ≤ 396 → g 0 8 = g0 0 8 + 4) → K49 g) (hQ : ∀ g' : zi_M, zk_I g' → zk_fr fr_S_feedFour g0 g' → (g0 0 8 ≤ 396 → g' 0 8 = g0 0 8 + 4) → Q 0 g') : ∀ (n : Nat) {l2 : Int} {g : zi_M}, zk_I g → zk_fr fr_S_feedFour g0 g → ((-8) ≤ l2 ∧ l2 ≤ 24) → (8 * g 0 8 + l2 = 8 * g0 0 8 + 24) → (l2 % 8 = 0) → l2 - (-8) < (n : Int) → w_S_feedFour_l3 l1 K49 Q n l2 g
  | 0, l2, g, I, F, b0, b1, b2, hm => by exfalso; omega
  | n + 1, l2, g, I, F, b0, b1, b2, hm => by
    unfold w_S_feedFour_l3
    refine ⟨⟨by omega, by omega⟩, ?_⟩
    refine ⟨fun c7 => ?_, fun c7 => ?_⟩
    · have m_1 : 0 ≤ (g 0 8) ∧ (g 0 8) ≤ 400 := I.1 0 8
      exact hK49 _ I F (by omega)
    · have m_2 : 0 ≤ (g 0 8) ∧ (g 0 8) ≤ 400 := I.1 0 8
      refine ⟨⟨by omega, by omega⟩, ?_⟩
      refine ⟨fun c6 => ?_, fun c6 => ?_⟩
      · exact hK49 _ I F (by omega)
      · refine ⟨⟨by omega, by omega⟩, ?_⟩
        have m_6 := zi_ush_f l1 l2
        have m_7 := zi_r_and (zi_ush l1 l2) 255
        try have m_8 := (zi_and_f (zi_ush l1 l2) 255).2.1 ⟨by omega, by omega⟩
        try have m_9 := (zi_and_f (zi_ush l1 l2) 255).2.2 ⟨by omega, by omega⟩
        intro g4 e_3
        have I_4 : zk_I g4 := by rw [e_3]; exact zk_upd (L := 0) (H := 255) rfl rfl I ⟨by omega, by omega⟩
        have F_5 : zk_fr fr_S_feedFour g0 g4 := by rw [e_3]; exact zk_fu F (Or.inl rfl)
        have m_13 : 0 ≤ (g4 0 8) ∧ (g4 0 8) ≤ 400 := I_4.1 0 8
        have m_14 : g4 0 8 = g 0 8 := by rw [e_3]; exact zi_u_ne (by decide)
        intro g5 e_10
        have I_11 : zk_I g5 := by rw [e_10]; exact zk_upd (L := 0) (H := 400) rfl rfl I_4 ⟨by omega, by omega⟩
        have F_12 : zk_fr fr_S_feedFour g0 g5 := by rw [e_10]; exact zk_fu F_5 (Or.inr ⟨rfl, rfl⟩)
        have m_15 : 0 ≤ (g5 0 8) ∧ (g5 0 8) ≤ 400 := I_11.1 0 8
        have m_16 : g5 0 8 = (g4 0 8) + 1 := by rw [e_10]; exact zi_u_eq
        exact k_S_feedFour_l3 q1 hK49 hQ n I_11 F_12 ⟨by omega, by omega⟩ (by omega) (by omega) (by omega)
set_option maxRecDepth 100000 in
set_option maxHeartbeats 4000000 in
theorem k_S_feedFour {l1 : Int} {g : zi_M} {Q : Int → zi_M → Prop} (I : zk_I g) (p1 : (-2147483648) ≤ l1 ∧ l1 ≤ 2147483647) (hQ : ∀ g' : zi_M, zk_I g' → zk_fr fr_S_feedFour g g' → (g 0 8 ≤ 396 → g' 0 8 = g 0 8 + 4) → Q 0 g') : w_S_feedFour l1 g Q := by
  unfold w_S_feedFour
  have m_21 : 0 ≤ (g 0 8) ∧ (g 0 8) ≤ 400 := I.1 0 8
  refine ⟨((24 - (-8) : Int).toNat + 1), k_S_feedFour_l3 (l1 := l1) ⟨by omega, by omega⟩ (fun g8 I_17 F_18 b_19 => ?_) hQ ((24 - (-8) : Int).toNat + 1) I (zk_f0 _) ⟨by omega, by omega⟩ (by omega) (by omega) (by omega)⟩
  have m_20 : 0 ≤ (g8 0 8) ∧ (g8 0 8) ≤ 400 := I_17.1 0 8
  exact hQ _ I_17 F_18 (by omega)
-- SpoutNews.feed(IIIII)I
noncomputable def fr_S_feed (a : Nat) (i : Int) : Prop := a = 190 ∨ (a = 0 ∧ i = 8)
set_option maxRecDepth 100000 in
set_option maxHeartbeats 4000000 in
theorem k_S_feed {l1 : Int} {l2 : Int} {l3 : Int} {l4 : Int} {l5 : Int} {g : zi_M} {Q : Int → zi_M → Prop} (I : zk_I g) (p1 : (-2147483648) ≤ l1 ∧ l1 ≤ 2147483647) (p2 : (-2147483648) ≤ l2 ∧ l2 ≤ 2147483647) (p3 : (-2147483648) ≤ l3 ∧ l3 ≤ 2147483647) (p4 : (-2147483648) ≤ l4 ∧ l4 ≤ 2147483647) (p5 : (-2147483648) ≤ l5 ∧ l5 ≤ 2147483647) (hQ : ∀ (v : Int) (g' : zi_M), zk_I g' → zk_fr fr_S_feed g g' → ((-1) ≤ v ∧ v ≤ 400) → (g 0 8 ≤ 380 → v = g 0 8 + 20 ∧ g' 0 8 = g 0 8 + 20) → (380 < g 0 8 → v = -1 ∧ g' 0 8 = g 0 8) → Q v g') : w_S_feed l1 l2 l3 l4 l5 g Q := by
  unfold w_S_feed
  have m_1 : 0 ≤ (g 0 8) ∧ (g 0 8) ≤ 400 := I.1 0 8
  refine ⟨⟨by omega, by omega⟩, ?_⟩
  refine ⟨fun c17 => ?_, fun c17 => ?_⟩
  · refine k_S_feedFour I ⟨by omega, by omega⟩ (fun g3 I_3 F_4 b_2 => ?_)
    have F_5 : zk_fr fr_S_feed g g3 := zk_ft (zk_f0 _) F_4 (fun a i => (fun h => Or.elim h (fun h => (Or.inl h)) (fun h => (Or.inr h))))
    have m_6 : 0 ≤ (g3 0 8) ∧ (g3 0 8) ≤ 400 := I_3.1 0 8
    refine k_S_feedFour I_3 ⟨by omega, by omega⟩ (fun g6 I_8 F_9 b_7 => ?_)
    have F_10 : zk_fr fr_S_feed g g6 := zk_ft F_5 F_9 (fun a i => (fun h => Or.elim h (fun h => (Or.inl h)) (fun h => (Or.inr h))))
    have m_11 : 0 ≤ (g6 0 8) ∧ (g6 0 8) ≤ 400 := I_8.1 0 8
    refine k_S_feedFour I_8 ⟨by omega, by omega⟩ (fun g9 I_13 F_14 b_12 => ?_)
    have F_15 : zk_fr fr_S_feed g g9 := zk_ft F_10 F_14 (fun a i => (fun h => Or.elim h (fun h => (Or.inl h)) (fun h => (Or.inr h))))
    have m_16 : 0 ≤ (g9 0 8) ∧ (g9 0 8) ≤ 400 := I_13.1 0 8
    refine k_S_feedFour I_13 ⟨by omega, by omega⟩ (fun g12 I_18 F_19 b_17 => ?_)
    have F_20 : zk_fr fr_S_feed g g12 := zk_ft F_15 F_19 (fun a i => (fun h => Or.elim h (fun h => (Or.inl h)) (fun h => (Or.inr h))))
    have m_21 : 0 ≤ (g12 0 8) ∧ (g12 0 8) ≤ 400 := I_18.1 0 8
    refine k_S_feedFour I_18 ⟨by omega, by omega⟩ (fun g15 I_23 F_24 b_22 => ?_)
    have F_25 : zk_fr fr_S_feed g g15 := zk_ft F_20 F_24 (fun a i => (fun h => Or.elim h (fun h => (Or.inl h)) (fun h => (Or.inr h))))
    have m_26 : 0 ≤ (g15 0 8) ∧ (g15 0 8) ≤ 400 := I_23.1 0 8
    exact hQ _ _ I_23 F_25 ⟨by omega, by omega⟩ (by omega) (by omega)
  · exact hQ _ _ I (zk_f0 _) ⟨by omega, by omega⟩ (by omega) (by omega)
-- SpoutNewsModel.types(I)V
noncomputable def fr_M_types (a : Nat) (i : Int) : Prop := a = 222 ∨ (a = 214 ∧ i = 13)
set_option maxRecDepth 100000 in
set_option maxHeartbeats 4000000 in
theorem k_M_types_l3 {l1 : Int} {K39 : zi_M → Prop} {Q : Int → zi_M → Prop} {g0 : zi_M} (q1 : (-2147483648) ≤ l1 ∧ l1 ≤ 2147483647) (hK39 : ∀ (g : zi_M), zk_I g → zk_fr fr_M_types g0 g → (g 214 13 = g0 214 13 + 4) → K39 g) (hQ : ∀ g' : zi_M, zk_I g' → zk_fr fr_M_types g0 g' → (g' 214 13 = g0 214 13 + 4) → Q 0 g') : ∀ (n : Nat) {l2 : Int} {g : zi_M}, zk_I g → zk_fr fr_M_types g0 g → ((-8) ≤ l2 ∧ l2 ≤ 24) → (8 * g 214 13 + l2 = 8 * g0 214 13 + 24) → (l2 % 8 = 0) → (8 * g 214 13 + l2 ≤ 3192) → l2 - (-8) < (n : Int) → w_M_types_l3 l1 K39 Q n l2 g
  | 0, l2, g, I, F, b0, b1, b2, b3, hm => by exfalso; omega
  | n + 1, l2, g, I, F, b0, b1, b2, b3, hm => by
    unfold w_M_types_l3
    refine ⟨⟨by omega, by omega⟩, ?_⟩
    refine ⟨fun c5 => ?_, fun c5 => ?_⟩
    · have m_1 : 0 ≤ (g 214 13) ∧ (g 214 13) ≤ 400 := I.1 214 13
      exact hK39 _ I F (by omega)
    · have m_5 : 0 ≤ (g 214 13) ∧ (g 214 13) ≤ 400 := I.1 214 13
      refine ⟨⟨by omega, by omega⟩, ?_⟩
      have m_6 := zi_r_shr l1 l2
      try have m_7 := (zi_shr_f l1 l2).2 ⟨by omega, by omega⟩
      have m_8 := zi_r_and (zi_shr l1 l2) 255
      try have m_9 := (zi_and_f (zi_shr l1 l2) 255).2.1 ⟨by omega, by omega⟩
      try have m_10 := (zi_and_f (zi_shr l1 l2) 255).2.2 ⟨by omega, by omega⟩
      intro g3 e_2
      have I_3 : zk_I g3 := by rw [e_2]; exact zk_upd (L := 0) (H := 255) rfl rfl I ⟨by omega, by omega⟩
      have F_4 : zk_fr fr_M_types g0 g3 := by rw [e_2]; exact zk_fu F (Or.inl rfl)
      have m_14 : 0 ≤ (g3 214 13) ∧ (g3 214 13) ≤ 400 := I_3.1 214 13
      have m_15 : g3 214 13 = g 214 13 := by rw [e_2]; exact zi_u_ne (by decide)
      intro g4 e_11
      have I_12 : zk_I g4 := by rw [e_11]; exact zk_upd (L := 0) (H := 400) rfl rfl I_3 ⟨by omega, by omega⟩
      have F_13 : zk_fr fr_M_types g0 g4 := by rw [e_11]; exact zk_fu F_4 (Or.inr ⟨rfl, rfl⟩)
      have m_16 : 0 ≤ (g4 214 13) ∧ (g4 214 13) ≤ 400 := I_12.1 214 13
      have m_17 : g4 214 13 = (g3 214 13) + 1 := by rw [e_11]; exact zi_u_eq
      exact k_M_types_l3 q1 hK39 hQ n I_12 F_13 ⟨by omega, by omega⟩ (by omega) (by omega) (by omega) (by omega)
set_option maxRecDepth 100000 in
set_option maxHeartbeats 4000000 in
theorem k_M_types {l1 : Int} {g : zi_M} {Q : Int → zi_M → Prop} (I : zk_I g) (p1 : (-2147483648) ≤ l1 ∧ l1 ≤ 2147483647) (px0 : g 214 13 ≤ 396) (hQ : ∀ g' : zi_M, zk_I g' → zk_fr fr_M_types g g' → (g' 214 13 = g 214 13 + 4) → Q 0 g') : w_M_types l1 g Q := by
  unfold w_M_types
  have m_22 : 0 ≤ (g 214 13) ∧ (g 214 13) ≤ 400 := I.1 214 13
  refine ⟨((24 - (-8) : Int).toNat + 1), k_M_types_l3 (l1 := l1) ⟨by omega, by omega⟩ (fun g6 I_18 F_19 b_20 => ?_) hQ ((24 - (-8) : Int).toNat + 1) I (zk_f0 _) ⟨by omega, by omega⟩ (by omega) (by omega) (by omega) (by omega)⟩
  have m_21 : 0 ≤ (g6 214 13) ∧ (g6 214 13) ≤ 400 := I_18.1 214 13
  exact hQ _ I_18 F_19 (by omega)
-- SpoutNewsModel.feed(IIIII)I
noncomputable def fr_M_feed (a : Nat) (i : Int) : Prop := a = 222 ∨ (a = 214 ∧ i = 0) ∨ (a = 214 ∧ i = 13)
set_option maxRecDepth 100000 in
set_option maxHeartbeats 4000000 in
theorem k_M_feed {l1 : Int} {l2 : Int} {l3 : Int} {l4 : Int} {l5 : Int} {g : zi_M} {Q : Int → zi_M → Prop} (I : zk_I g) (p1 : (-2147483648) ≤ l1 ∧ l1 ≤ 2147483647) (p2 : (-2147483648) ≤ l2 ∧ l2 ≤ 2147483647) (p3 : (-2147483648) ≤ l3 ∧ l3 ≤ 2147483647) (p4 : (-2147483648) ≤ l4 ∧ l4 ≤ 2147483647) (p5 : (-2147483648) ≤ l5 ∧ l5 ≤ 2147483647) (hQ : ∀ (v : Int) (g' : zi_M), zk_I g' → zk_fr fr_M_feed g g' → ((-1) ≤ v ∧ v ≤ 400) → (g 214 13 ≤ 380 → v = g 214 13 + 20 ∧ g' 214 13 = g 214 13 + 20) → (380 < g 214 13 → v = -1 ∧ g' 214 13 = g 214 13) → Q v g') : w_M_feed l1 l2 l3 l4 l5 g Q := by
  unfold w_M_feed
  intro g1 e_1
  have I_2 : zk_I g1 := by rw [e_1]; exact zk_upd (L := (-2147483648)) (H := 2147483647) rfl rfl I ⟨by omega, by omega⟩
  have F_3 : zk_fr fr_M_feed g g1 := by rw [e_1]; exact zk_fu (zk_f0 _) (Or.inr (Or.inl ⟨rfl, rfl⟩))
  have m_4 : 0 ≤ (g1 214 13) ∧ (g1 214 13) ≤ 400 := I_2.1 214 13
  have m_5 : g1 214 13 = g 214 13 := by rw [e_1]; exact zi_u_ni (by decide)
  have m_6 : 0 ≤ (g 214 13) ∧ (g 214 13) ≤ 400 := I.1 214 13
  refine ⟨⟨by omega, by omega⟩, ?_⟩
  refine ⟨fun c18 => ?_, fun c18 => ?_⟩
  · refine k_M_types I_2 ⟨by omega, by omega⟩ (by omega) (fun g4 I_8 F_9 b_7 => ?_)
    have F_10 : zk_fr fr_M_feed g g4 := zk_ft F_3 F_9 (fun a i => (fun h => Or.elim h (fun h => (Or.inl h)) (fun h => (Or.inr (Or.inr h)))))
    have m_11 : 0 ≤ (g4 214 13) ∧ (g4 214 13) ≤ 400 := I_8.1 214 13
    refine k_M_types I_8 ⟨by omega, by omega⟩ (by omega) (fun g7 I_13 F_14 b_12 => ?_)
    have F_15 : zk_fr fr_M_feed g g7 := zk_ft F_10 F_14 (fun a i => (fun h => Or.elim h (fun h => (Or.inl h)) (fun h => (Or.inr (Or.inr h)))))
    have m_16 : 0 ≤ (g7 214 13) ∧ (g7 214 13) ≤ 400 := I_13.1 214 13
    refine k_M_types I_13 ⟨by omega, by omega⟩ (by omega) (fun g10 I_18 F_19 b_17 => ?_)
    have F_20 : zk_fr fr_M_feed g g10 := zk_ft F_15 F_19 (fun a i => (fun h => Or.elim h (fun h => (Or.inl h)) (fun h => (Or.inr (Or.inr h)))))
    have m_21 : 0 ≤ (g10 214 13) ∧ (g10 214 13) ≤ 400 := I_18.1 214 13
    refine k_M_types I_18 ⟨by omega, by omega⟩ (by omega) (fun g13 I_23 F_24 b_22 => ?_)
    have F_25 : zk_fr fr_M_feed g g13 := zk_ft F_20 F_24 (fun a i => (fun h => Or.elim h (fun h => (Or.inl h)) (fun h => (Or.inr (Or.inr h)))))
    have m_26 : 0 ≤ (g13 214 13) ∧ (g13 214 13) ≤ 400 := I_23.1 214 13
    refine k_M_types I_23 ⟨by omega, by omega⟩ (by omega) (fun g16 I_28 F_29 b_27 => ?_)
    have F_30 : zk_fr fr_M_feed g g16 := zk_ft F_25 F_29 (fun a i => (fun h => Or.elim h (fun h => (Or.inl h)) (fun h => (Or.inr (Or.inr h)))))
    have m_31 : 0 ≤ (g16 214 13) ∧ (g16 214 13) ≤ 400 := I_28.1 214 13
    exact hQ _ _ I_28 F_30 ⟨by omega, by omega⟩ (by omega) (by omega)
  · exact hQ _ _ I_2 F_3 ⟨by omega, by omega⟩ (by omega) (by omega)
-- SpoutNews.end(I)Z
noncomputable def fr_S_end (a : Nat) (i : Int) : Prop := (a = 0 ∧ i = 8)
set_option maxRecDepth 100000 in
set_option maxHeartbeats 4000000 in
theorem k_S_end {l1 : Int} {g : zi_M} {Q : Int → zi_M → Prop} (I : zk_I g) (p1 : (-2147483648) ≤ l1 ∧ l1 ≤ 2147483647) (hQ : ∀ (v : Int) (g' : zi_M), zk_I g' → zk_fr fr_S_end g g' → (0 ≤ v ∧ v ≤ 1) → (0 ≤ l1 ∧ l1 ≤ g 0 8 → v = 1 ∧ g' 0 8 = l1) → (¬ (0 ≤ l1 ∧ l1 ≤ g 0 8) → v = 0 ∧ g' 0 8 = g 0 8) → Q v g') : w_S_end l1 g Q := by
  unfold w_S_end
  refine ⟨⟨by omega, by omega⟩, ?_⟩
  refine ⟨fun c5 => ?_, fun c5 => ?_⟩
  · have m_1 : 0 ≤ (g 0 8) ∧ (g 0 8) ≤ 400 := I.1 0 8
    exact hQ _ _ I (zk_f0 _) ⟨by omega, by omega⟩ (by omega) (by omega)
  · have m_2 : 0 ≤ (g 0 8) ∧ (g 0 8) ≤ 400 := I.1 0 8
    refine ⟨⟨by omega, by omega⟩, ?_⟩
    refine ⟨fun c4 => ?_, fun c4 => ?_⟩
    · intro g3 e_3
      have I_4 : zk_I g3 := by rw [e_3]; exact zk_upd (L := 0) (H := 400) rfl rfl I ⟨by omega, by omega⟩
      have F_5 : zk_fr fr_S_end g g3 := by rw [e_3]; exact zk_fu (zk_f0 _) ⟨rfl, rfl⟩
      have m_6 : 0 ≤ (g3 0 8) ∧ (g3 0 8) ≤ 400 := I_4.1 0 8
      have m_7 : g3 0 8 = l1 := by rw [e_3]; exact zi_u_eq
      exact hQ _ _ I_4 F_5 ⟨by omega, by omega⟩ (by omega) (by omega)
    · exact hQ _ _ I (zk_f0 _) ⟨by omega, by omega⟩ (by omega) (by omega)
