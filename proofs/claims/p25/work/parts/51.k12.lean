-- by program (wip/gen/mkz.py)
-- SpoutNewsModel.draw(I)I
set_option maxRecDepth 100000 in
set_option maxHeartbeats 4000000 in
theorem k_M_draw {l1 : Int} {g : zi_M} {Q : Int → zi_M → Prop} (I : zk_I g) (p1 : 1000 ≤ l1 ∧ l1 ≤ 1000) (hQ : ∀ (v : Int) (g' : zi_M), zk_I g' → zk_fr fr_M_draw g g' → (0 ≤ v ∧ v ≤ 999) → (∀ T : Int, zVM T g' = zup (zVM T g) 1 (zi_w (1664525 * zVM T g 1 + 1013904223)) ∧ v = Int.tmod (zi_ush (zVM T g' 1) 8) l1) → Q v g') : w_M_draw l1 g Q := by
  unfold w_M_draw
  have m_4 := zk_rng I 215 1
  have m_5 := zi_r_w ((1664525 * (g 215 1)) + 1013904223)
  intro g1 e_1
  have I_2 : zk_I g1 := by rw [e_1]; exact zk_upd (zk_nl0 (i := 1) (by omega)).1 (zk_nl0 (i := 1) (by omega)).2 I ⟨by omega, by omega⟩
  have F_3 : zk_fr fr_M_draw g g1 := by rw [e_1]; exact zk_fu (zk_f0 _) ⟨rfl, by omega, by omega⟩
  refine ⟨⟨by omega, by omega⟩, (by omega), ?_⟩
  have m_6 := zk_rng I_2 215 1
  have m_7 : g1 215 1 = zi_w ((1664525 * (g 215 1)) + 1013904223) := by rw [e_1]; exact zi_u_eq
  have m_8 := zi_ush_f (g1 215 1) 8
  have m_9 := zi_tmod_f (zi_ush (g1 215 1) 8) l1
  exact hQ _ _ I_2 F_3 ⟨by omega, by omega⟩ (by exact zMd_of (by assumption))
-- SpoutNewsModel.saysAs(II)I
set_option maxRecDepth 100000 in
set_option maxHeartbeats 4000000 in
theorem k_M_saysAs_b47 {l1 : Int} {l2 : Int} {s0 : Int} {Q : Int → zi_M → Prop} {g : zi_M} {g0 : zi_M} (I : zk_I g) (F : zk_fr fr_M_saysAs g0 g) (p2 : 0 ≤ l2 ∧ l2 ≤ 15) (ix0 : zAs l1 l2 g0 g s0) (ps0 : 0 ≤ s0 ∧ s0 ≤ 1) (hQ : ∀ (v : Int) (g' : zi_M), zk_I g' → zk_fr fr_M_saysAs g0 g' → (0 ≤ v ∧ v ≤ 15) → (zAF l1 l2 g0 g' v) → Q v g') : w_M_saysAs_b47 l2 s0 g Q := by
  unfold w_M_saysAs_b47
  refine ⟨⟨by omega, by omega⟩, ?_⟩
  refine ⟨fun c13 => ?_, fun c13 => ?_⟩
  · have m_17 := zk_rng I 215 5
    have m_18 := zi_r_w ((g 215 5) + 1)
    intro g11 e_14
    have I_15 : zk_I g11 := by rw [e_14]; exact zk_upd (zk_nl3 (i := 5) (by omega)).1 (zk_nl3 (i := 5) (by omega)).2 I ⟨by omega, by omega⟩
    have F_16 : zk_fr fr_M_saysAs g0 g11 := by rw [e_14]; exact zk_fu F (Or.inr (Or.inr (Or.inr ⟨rfl, by omega, by omega⟩)))
    refine ⟨⟨by omega, by omega⟩, ?_⟩
    have m_19 := zi_tmod_f (l2 + 1) 16
    have m_20 := zi_tmod_c (l2 + 1) 16 (by decide)
    exact hQ _ _ I_15 F_16 ⟨by omega, by omega⟩ (by first | exact zAF_n ix0 (by assumption) (by rfl) | exact zAF_y ix0 (by assumption) (by assumption) (by rfl))
  · exact hQ _ _ I F ⟨by omega, by omega⟩ (by first | exact zAF_n ix0 (by assumption) (by rfl) | exact zAF_y ix0 (by assumption) (by assumption) (by rfl))
set_option maxRecDepth 100000 in
set_option maxHeartbeats 4000000 in
theorem k_M_saysAs {l1 : Int} {l2 : Int} {g : zi_M} {Q : Int → zi_M → Prop} (I : zk_I g) (p1 : 0 ≤ l1 ∧ l1 ≤ 9) (p2 : 0 ≤ l2 ∧ l2 ≤ 15) (hQ : ∀ (v : Int) (g' : zi_M), zk_I g' → zk_fr fr_M_saysAs g g' → (0 ≤ v ∧ v ≤ 15) → (zAF l1 l2 g g' v) → Q v g') : w_M_saysAs l1 l2 g Q := by
  unfold w_M_saysAs
  refine k_M_slipOf I ⟨by omega, by omega⟩ ⟨by omega, by omega⟩ (fun v1 g2 I_3 F_4 b_1 b_2 => ?_)
  have F_5 : zk_fr fr_M_saysAs g g2 := zk_ft (zk_f0 _) F_4 (fun a i => (fun h => Or.elim h (fun h => (Or.inl h)) (fun h => (Or.inr (Or.inl h)))))
  have m_6 : 0 ≤ (g2 214 5) ∧ (g2 214 5) ≤ 1 := I_3.1 214 5
  have m_7 : g2 214 5 = g 214 5 := F_4 _ _ (by unfold fr_M_slipOf; omega)
  have m_8 : 0 ≤ (g 214 5) ∧ (g 214 5) ≤ 1 := I.1 214 5
  refine ⟨⟨by omega, by omega⟩, ?_⟩
  refine ⟨fun c17 => ?_, fun c17 => ?_⟩
  · refine k_M_draw I_3 ⟨by omega, by omega⟩ (fun v5 g6 I_11 F_12 b_9 b_10 => ?_)
    have F_13 : zk_fr fr_M_saysAs g g6 := zk_ft F_5 F_12 (fun a i => (fun h => (Or.inr (Or.inr (Or.inl h)))))
    refine ⟨⟨by omega, by omega⟩, ⟨by omega, by omega⟩, ?_⟩
    refine ⟨fun c14 => ?_, fun c14 => ?_⟩
    · exact k_M_saysAs_b47 I_11 F_13 ⟨by omega, by omega⟩ (by first | exact zAs_a (by assumption) (by assumption) (by assumption) (by assumption) (by omega) | exact zAs_b (by assumption) (by assumption) (by assumption) (by assumption) (by omega) | exact zAs_c (by assumption) (by assumption) (by assumption) (by omega) | exact zAs_d (by assumption) (by assumption) (by assumption) (by omega)) ⟨by omega, by omega⟩ hQ
    · exact k_M_saysAs_b47 I_11 F_13 ⟨by omega, by omega⟩ (by first | exact zAs_a (by assumption) (by assumption) (by assumption) (by assumption) (by omega) | exact zAs_b (by assumption) (by assumption) (by assumption) (by assumption) (by omega) | exact zAs_c (by assumption) (by assumption) (by assumption) (by omega) | exact zAs_d (by assumption) (by assumption) (by assumption) (by omega)) ⟨by omega, by omega⟩ hQ
  · refine ⟨⟨by omega, by omega⟩, ?_⟩
    refine ⟨fun c16 => ?_, fun c16 => ?_⟩
    · exact k_M_saysAs_b47 I_3 F_5 ⟨by omega, by omega⟩ (by first | exact zAs_a (by assumption) (by assumption) (by assumption) (by assumption) (by omega) | exact zAs_b (by assumption) (by assumption) (by assumption) (by assumption) (by omega) | exact zAs_c (by assumption) (by assumption) (by assumption) (by omega) | exact zAs_d (by assumption) (by assumption) (by assumption) (by omega)) ⟨by omega, by omega⟩ hQ
    · exact k_M_saysAs_b47 I_3 F_5 ⟨by omega, by omega⟩ (by first | exact zAs_a (by assumption) (by assumption) (by assumption) (by assumption) (by omega) | exact zAs_b (by assumption) (by assumption) (by assumption) (by assumption) (by omega) | exact zAs_c (by assumption) (by assumption) (by assumption) (by omega) | exact zAs_d (by assumption) (by assumption) (by assumption) (by omega)) ⟨by omega, by omega⟩ hQ
-- SpoutNewsModel.into(I)I
set_option maxRecDepth 100000 in
set_option maxHeartbeats 4000000 in
theorem k_M_into {l1 : Int} {g : zi_M} {Q : Int → zi_M → Prop} (I : zk_I g) (p1 : 0 ≤ l1 ∧ l1 ≤ 9) (hQ : ∀ v : Int, (v = (g 232 l1) - 1) → Q v g) : w_M_into l1 g Q := by
  unfold w_M_into
  refine ⟨⟨by omega, by omega⟩, ?_⟩
  have m_1 : 0 ≤ (g 232 l1) ∧ (g 232 l1) ≤ 10 := I.1 232 l1
  exact hQ _ (by intros; omega)
-- SpoutNewsModel.saysFirst(I)V
set_option maxRecDepth 100000 in
set_option maxHeartbeats 4000000 in
theorem k_M_saysFirst_l14 {l1 : Int} {K65 : zi_M → Prop} {Q : Int → zi_M → Prop} {g0 : zi_M} (q1 : 0 ≤ l1 ∧ l1 ≤ 9) (hK65 : ∀ (g : zi_M), zk_I g → zk_fr fr_M_saysFirst g0 g → (g 215 (26 + l1) = g0 215 (26 + l1)) → (g 214 43 = g0 214 43) → (zN2 l1 g0 g) → K65 g) (hQ : ∀ g' : zi_M, zk_I g' → zk_fr fr_M_saysFirst g0 g' → (g' 215 (26 + l1) = g0 215 (26 + l1) - 1) → (g' 214 43 ≤ g0 214 43 + 1) → (zNY l1 g0 g') → Q 0 g') : ∀ (n : Nat) {l3 : Int} {g : zi_M}, zk_I g → zk_fr fr_M_saysFirst g0 g → (0 ≤ l3 ∧ l3 ≤ 20) → (g 215 (26 + l1) = g0 215 (26 + l1)) → (g 214 43 = g0 214 43) → (l3 ≤ g0 215 (26 + l1) - 1) → (zN1 l1 l3 g0 g) → 20 - l3 < (n : Int) → w_M_saysFirst_l14 l1 K65 Q n l3 g
  | 0, l3, g, I, F, b0, b1, b2, b3, b4, hm => by exfalso; omega
  | n + 1, l3, g, I, F, b0, b1, b2, b3, b4, hm => by
    unfold w_M_saysFirst_l14
    refine ⟨⟨by omega, by omega⟩, ?_⟩
    have m_8 := zk_now26 I (i := (26 + l1)) (by omega)
    refine ⟨⟨by omega, by omega⟩, ⟨by omega, by omega⟩, ?_⟩
    refine ⟨fun c13 => ?_, fun c13 => ?_⟩
    · have m_9 : 0 ≤ (g 214 43) ∧ (g 214 43) ≤ 90 := I.1 214 43
      exact hK65 _ I F (by omega) (by omega) (by exact zN1_x b4 (by omega))
    · refine ⟨⟨by omega, by omega⟩, ?_⟩
      refine ⟨⟨by omega, by omega⟩, ?_⟩
      have m_13 := zk_now36 I (i := (((36 + (20 * l1)) + l3) + 1)) (by omega)
      intro g12 e_10
      have I_11 : zk_I g12 := by rw [e_10]; exact zk_upd (zk_nl36 (i := (36 + (20 * l1)) + l3) (by omega)).1 (zk_nl36 (i := (36 + (20 * l1)) + l3) (by omega)).2 I ⟨by omega, by omega⟩
      have F_12 : zk_fr fr_M_saysFirst g0 g12 := by rw [e_10]; exact zk_fu F (Or.inr (Or.inr (Or.inr (Or.inr (Or.inr (Or.inr (Or.inr (Or.inr (Or.inr (Or.inr (Or.inl ⟨rfl, by omega, by omega⟩)))))))))))
      have m_14 := zk_now26 I_11 (i := (26 + l1)) (by omega)
      have m_15 : (26 + l1 = (36 + (20 * l1)) + l3 → g12 215 (26 + l1) = g 215 (((36 + (20 * l1)) + l3) + 1)) ∧ (¬ 26 + l1 = (36 + (20 * l1)) + l3 → g12 215 (26 + l1) = g 215 (26 + l1)) := by rw [e_10]; exact zi_u_if
      have m_16 : 0 ≤ (g12 214 43) ∧ (g12 214 43) ≤ 90 := I_11.1 214 43
      have m_17 : g12 214 43 = g 214 43 := by rw [e_10]; exact zi_u_ne (by decide)
      have m_18 : 0 ≤ (g 214 43) ∧ (g 214 43) ≤ 90 := I.1 214 43
      exact k_M_saysFirst_l14 q1 hK65 hQ n I_11 F_12 ⟨by omega, by omega⟩ (by omega) (by omega) (by omega) (by first | exact zN1_s b4 ⟨by omega, by omega⟩ (by omega) (by omega) (by assumption) | exact zN1_0 ⟨by omega, by omega⟩ (by assumption) (by assumption)) (by omega)
set_option maxRecDepth 100000 in
set_option maxHeartbeats 4000000 in
theorem k_M_saysFirst_l108 {l1 : Int} {l2 : Int} {K160 : zi_M → Prop} {Q : Int → zi_M → Prop} {g0 : zi_M} (q1 : 0 ≤ l1 ∧ l1 ≤ 9) (q2 : 0 ≤ l2 ∧ l2 ≤ 15) (hK160 : ∀ (g : zi_M), zk_I g → zk_fr fr_M_saysFirst g0 g → (g 215 (26 + l1) = g0 215 (26 + l1) - 1) → (g 214 43 = g0 214 43) → (zN4 l1 l2 g0 g) → K160 g) (hQ : ∀ g' : zi_M, zk_I g' → zk_fr fr_M_saysFirst g0 g' → (g' 215 (26 + l1) = g0 215 (26 + l1) - 1) → (g' 214 43 ≤ g0 214 43 + 1) → (zNY l1 g0 g') → Q 0 g') : ∀ (n : Nat) {l3 : Int} {g : zi_M}, zk_I g → zk_fr fr_M_saysFirst g0 g → (0 ≤ l3 ∧ l3 ≤ 6) → (g 215 (26 + l1) = g0 215 (26 + l1) - 1) → (g 214 43 = g0 214 43) → (zN3 l1 l2 l3 g0 g) → 6 - l3 < (n : Int) → w_M_saysFirst_l108 l1 l2 K160 Q n l3 g
  | 0, l3, g, I, F, b0, b1, b2, b3, hm => by exfalso; omega
  | n + 1, l3, g, I, F, b0, b1, b2, b3, hm => by
    unfold w_M_saysFirst_l108
    refine ⟨⟨by omega, by omega⟩, ?_⟩
    refine ⟨fun c28 => ?_, fun c28 => ?_⟩
    · have m_39 := zk_now26 I (i := (26 + l1)) (by omega)
      have m_40 : 0 ≤ (g 214 43) ∧ (g 214 43) ≤ 90 := I.1 214 43
      exact hK160 _ I F (by omega) (by omega) (by exact zN3_x b3 (by omega))
    · refine ⟨⟨by omega, by omega⟩, ?_⟩
      have m_41 := zk_now252 I (i := (252 + l3)) (by omega)
      refine ⟨⟨by omega, by omega⟩, ⟨by omega, by omega⟩, ?_⟩
      refine ⟨fun c27 => ?_, fun c27 => ?_⟩
      · have m_42 := zk_now26 I (i := (26 + l1)) (by omega)
        have m_43 : 0 ≤ (g 214 43) ∧ (g 214 43) ≤ 90 := I.1 214 43
        exact k_M_saysFirst_l108 q1 q2 hK160 hQ n I F ⟨by omega, by omega⟩ (by omega) (by omega) (by first | exact zN3_n b3 (by omega) (by omega) (by omega) | exact zN3_y b3 (by omega) (by omega) (by omega) (by assumption) | exact zN3_0 (by assumption) ⟨by omega, by omega⟩ (by assumption) (zk_now26 I (i := (26 + l1)) (by omega)) (by assumption) (by assumption) (by assumption) (zNY_5 (by assumption))) (by omega)
      · refine ⟨⟨by omega, by omega⟩, ?_⟩
        have m_47 := zk_rng I 215 (258 + l3)
        have m_48 := zi_r_shl 1 l2
        try have m_49 := (zi_shl_f l2).2.1 ⟨by omega, by omega⟩
        first | have m_50 := (zi_shl_f l2).2.2.1 ⟨by omega, by omega⟩ | have m_51 := (zi_shl_f l2).2.2.2.1 ⟨by omega, by omega⟩ | have m_52 := (zi_shl_f l2).2.2.2.2.1 ⟨by omega, by omega⟩ | have m_53 := (zi_shl_f l2).2.2.2.2.2.1 ⟨by omega, by omega⟩ | have m_54 := (zi_shl_f l2).2.2.2.2.2.2 ⟨by omega, by omega⟩ | skip
        first | have m_55 := (zi_or_f (g 215 (258 + l3)) (zi_shl 1 l2)).2.1 ⟨by omega, by omega, by omega, by omega⟩ | have m_55 := (zi_or_f (g 215 (258 + l3)) (zi_shl 1 l2)).2.2.1 ⟨by omega, by omega, by omega, by omega⟩ | have m_55 := (zi_or_f (g 215 (258 + l3)) (zi_shl 1 l2)).2.2.2.1 ⟨by omega, by omega, by omega, by omega⟩ | have m_55 := (zi_or_f (g 215 (258 + l3)) (zi_shl 1 l2)).2.2.2.2.1 ⟨by omega, by omega, by omega, by omega⟩ | have m_55 := (zi_or_f (g 215 (258 + l3)) (zi_shl 1 l2)).2.2.2.2.2 ⟨by omega, by omega, by omega, by omega⟩ | have m_55 := zi_r_or (g 215 (258 + l3)) (zi_shl 1 l2)
        intro g26 e_44
        have I_45 : zk_I g26 := by rw [e_44]; exact zk_upd (zk_nl258 (i := 258 + l3) (by omega)).1 (zk_nl258 (i := 258 + l3) (by omega)).2 I ⟨by omega, by omega⟩
        have F_46 : zk_fr fr_M_saysFirst g0 g26 := by rw [e_44]; exact zk_fu F (Or.inr (Or.inr (Or.inr (Or.inr (Or.inr (Or.inr (Or.inr (Or.inr (Or.inl ⟨rfl, by omega, by omega⟩)))))))))
        have m_56 := zk_now26 I_45 (i := (26 + l1)) (by omega)
        have m_57 := zk_now26 I (i := (26 + l1)) (by omega)
        have m_58 : (26 + l1 = 258 + l3 → g26 215 (26 + l1) = zi_or (g 215 (258 + l3)) (zi_shl 1 l2)) ∧ (¬ 26 + l1 = 258 + l3 → g26 215 (26 + l1) = g 215 (26 + l1)) := by rw [e_44]; exact zi_u_if
        have m_59 : 0 ≤ (g26 214 43) ∧ (g26 214 43) ≤ 90 := I_45.1 214 43
        have m_60 : g26 214 43 = g 214 43 := by rw [e_44]; exact zi_u_ne (by decide)
        have m_61 : 0 ≤ (g 214 43) ∧ (g 214 43) ≤ 90 := I.1 214 43
        exact k_M_saysFirst_l108 q1 q2 hK160 hQ n I_45 F_46 ⟨by omega, by omega⟩ (by omega) (by omega) (by first | exact zN3_n b3 (by omega) (by omega) (by omega) | exact zN3_y b3 (by omega) (by omega) (by omega) (by assumption) | exact zN3_0 (by assumption) ⟨by omega, by omega⟩ (by assumption) (zk_now26 I (i := (26 + l1)) (by omega)) (by assumption) (by assumption) (by assumption) (zNY_5 (by assumption))) (by omega)
set_option maxRecDepth 100000 in
set_option maxHeartbeats 4000000 in
theorem k_M_saysFirst {l1 : Int} {g : zi_M} {Q : Int → zi_M → Prop} (I : zk_I g) (p1 : 0 ≤ l1 ∧ l1 ≤ 9) (px0 : 1 ≤ g 215 (26 + l1)) (px1 : g 214 43 ≤ 89) (hQ : ∀ g' : zi_M, zk_I g' → zk_fr fr_M_saysFirst g g' → (g' 215 (26 + l1) = g 215 (26 + l1) - 1) → (g' 214 43 ≤ g 214 43 + 1) → (zNY l1 g g') → Q 0 g') : w_M_saysFirst l1 g Q := by
  unfold w_M_saysFirst
  have m_2 := zk_now36 I (i := ((36 + (20 * l1)) + 0)) (by omega)
  refine k_M_heardAt I ⟨by omega, by omega⟩ ⟨by omega, by omega⟩ (fun v1 b_1 => ?_)
  refine k_M_saysAs I ⟨by omega, by omega⟩ ⟨by omega, by omega⟩ (fun v4 g5 I_5 F_6 b_3 b_4 => ?_)
  have F_7 : zk_fr fr_M_saysFirst g g5 := zk_ft (zk_f0 _) F_6 (fun a i => (fun h => Or.elim h (fun h => (Or.inr (Or.inl h))) (fun h => Or.elim h (fun h => (Or.inr (Or.inr (Or.inl h)))) (fun h => Or.elim h (fun h => (Or.inr (Or.inr (Or.inr (Or.inr (Or.inr (Or.inr (Or.inl h)))))))) (fun h => (Or.inr (Or.inr (Or.inr (Or.inr (Or.inr (Or.inr (Or.inr (Or.inr (Or.inr (Or.inr (Or.inr (Or.inr h)))))))))))))))))
  have m_108 := zk_now26 I_5 (i := (26 + l1)) (by omega)
  have m_109 : g5 215 (26 + l1) = g 215 (26 + l1) := F_6 _ _ (by unfold fr_M_saysAs; omega)
  have m_110 := zk_now26 I (i := (26 + l1)) (by omega)
  have m_111 : 0 ≤ (g5 214 43) ∧ (g5 214 43) ≤ 90 := I_5.1 214 43
  have m_112 : g5 214 43 = g 214 43 := F_6 _ _ (by unfold fr_M_saysAs; omega)
  have m_113 : 0 ≤ (g 214 43) ∧ (g 214 43) ≤ 90 := I.1 214 43
  refine ⟨((20 - 0 : Int).toNat + 1), k_M_saysFirst_l14 (l1 := l1) ⟨by omega, by omega⟩ (fun g14 I_19 F_20 b_21 b_22 b_23 => ?_) hQ ((20 - 0 : Int).toNat + 1) I_5 F_7 ⟨by omega, by omega⟩ (by omega) (by omega) (by omega) (by first | exact zN1_s b4 ⟨by omega, by omega⟩ (by omega) (by omega) (by assumption) | exact zN1_0 ⟨by omega, by omega⟩ (by assumption) (by assumption)) (by omega)⟩
  refine ⟨⟨by omega, by omega⟩, ?_⟩
  have m_27 := zk_now26 I_19 (i := (26 + l1)) (by omega)
  intro g16 e_24
  have I_25 : zk_I g16 := by rw [e_24]; exact zk_upd (zk_nl26 (i := 26 + l1) (by omega)).1 (zk_nl26 (i := 26 + l1) (by omega)).2 I_19 ⟨by omega, by omega⟩
  have F_26 : zk_fr fr_M_saysFirst g g16 := by rw [e_24]; exact zk_fu F_20 (Or.inr (Or.inr (Or.inr (Or.inr (Or.inr (Or.inr (Or.inr (Or.inr (Or.inr (Or.inl ⟨rfl, by omega, by omega⟩))))))))))
  have m_31 := zk_rng I_25 215 4
  have m_32 := zk_rng I_19 215 4
  have m_33 : (4 = 26 + l1 → g16 215 4 = (g14 215 (26 + l1)) - 1) ∧ (¬ 4 = 26 + l1 → g16 215 4 = g14 215 4) := by rw [e_24]; exact zi_u_if
  have m_34 := zi_r_w ((g16 215 4) + 1)
  intro g17 e_28
  have I_29 : zk_I g17 := by rw [e_28]; exact zk_upd (zk_nl3 (i := 4) (by omega)).1 (zk_nl3 (i := 4) (by omega)).2 I_25 ⟨by omega, by omega⟩
  have F_30 : zk_fr fr_M_saysFirst g g17 := by rw [e_28]; exact zk_fu F_26 (Or.inr (Or.inr (Or.inr (Or.inr (Or.inr (Or.inr (Or.inr (Or.inr (Or.inr (Or.inr (Or.inr (Or.inl ⟨rfl, by omega, by omega⟩))))))))))))
  refine k_M_notes I_29 ⟨by omega, by omega⟩ ⟨by omega, by omega⟩ ⟨by omega, by omega⟩ (fun g19 I_36 F_37 b_35 => ?_)
  have F_38 : zk_fr fr_M_saysFirst g g19 := zk_ft F_30 F_37 (fun a i => (fun h => Or.elim h (fun h => (Or.inl h)) (fun h => (Or.inr (Or.inr (Or.inr (Or.inr (Or.inr (Or.inr (Or.inr (Or.inl h)))))))))))
  have m_95 := zk_now26 I_36 (i := (26 + l1)) (by omega)
  have m_96 : g19 215 (26 + l1) = g17 215 (26 + l1) := F_37 _ _ (by unfold fr_M_notes; omega)
  have m_97 := zk_now26 I_29 (i := (26 + l1)) (by omega)
  have m_98 := zk_now26 I_25 (i := (26 + l1)) (by omega)
  have m_99 : g16 215 (26 + l1) = (g14 215 (26 + l1)) - 1 := by rw [e_24]; exact zi_u_eq
  have m_100 : (26 + l1 = 4 → g17 215 (26 + l1) = zi_w ((g16 215 4) + 1)) ∧ (¬ 26 + l1 = 4 → g17 215 (26 + l1) = g16 215 (26 + l1)) := by rw [e_28]; exact zi_u_if
  have m_101 : 0 ≤ (g19 214 43) ∧ (g19 214 43) ≤ 90 := I_36.1 214 43
  have m_102 : g19 214 43 = g17 214 43 := F_37 _ _ (by unfold fr_M_notes; omega)
  have m_103 : 0 ≤ (g17 214 43) ∧ (g17 214 43) ≤ 90 := I_29.1 214 43
  have m_104 : g17 214 43 = g16 214 43 := by rw [e_28]; exact zi_u_ne (by decide)
  have m_105 : 0 ≤ (g16 214 43) ∧ (g16 214 43) ≤ 90 := I_25.1 214 43
  have m_106 : g16 214 43 = g14 214 43 := by rw [e_24]; exact zi_u_ne (by decide)
  have m_107 : 0 ≤ (g14 214 43) ∧ (g14 214 43) ≤ 90 := I_19.1 214 43
  refine ⟨((6 - 0 : Int).toNat + 1), k_M_saysFirst_l108 (l1 := l1) (l2 := v4) ⟨by omega, by omega⟩ ⟨by omega, by omega⟩ (fun g29 I_62 F_63 b_64 b_65 b_66 => ?_) hQ ((6 - 0 : Int).toNat + 1) I_36 F_38 ⟨by omega, by omega⟩ (by omega) (by omega) (by first | exact zN3_n b3 (by omega) (by omega) (by omega) | exact zN3_y b3 (by omega) (by omega) (by omega) (by assumption) | exact zN3_0 (by assumption) ⟨by omega, by omega⟩ (by assumption) (zk_now26 I (i := (26 + l1)) (by omega)) (by assumption) (by assumption) (by assumption) (zNY_5 (by assumption))) (by omega)⟩
  have m_68 : 0 ≤ (g29 232 (l1)) ∧ (g29 232 (l1)) ≤ 10 := I_62.1 232 (l1)
  refine k_M_into I_62 ⟨by omega, by omega⟩ (fun v30 b_67 => ?_)
  refine ⟨⟨by omega, by omega⟩, ?_⟩
  refine ⟨fun c42 => ?_, fun c42 => ?_⟩
  · refine k_M_into I_62 ⟨by omega, by omega⟩ (fun v34 b_69 => ?_)
    have m_73 : 0 ≤ (g29 214 43) ∧ (g29 214 43) ≤ 90 := I_62.1 214 43
    refine ⟨⟨by omega, by omega⟩, ?_⟩
    intro g38 e_70
    have I_71 : zk_I g38 := by rw [e_70]; exact zk_upd (L := 0) (H := 9) rfl rfl I_62 ⟨by omega, by omega⟩
    have F_72 : zk_fr fr_M_saysFirst g g38 := by rw [e_70]; exact zk_fu F_63 (Or.inr (Or.inr (Or.inr (Or.inl rfl))))
    have m_77 : 0 ≤ (g38 214 43) ∧ (g38 214 43) ≤ 90 := I_71.1 214 43
    have m_78 : g38 214 43 = g29 214 43 := by rw [e_70]; exact zi_u_ne (by decide)
    refine ⟨⟨by omega, by omega⟩, ?_⟩
    intro g40 e_74
    have I_75 : zk_I g40 := by rw [e_74]; exact zk_upd (L := 0) (H := 15) rfl rfl I_71 ⟨by omega, by omega⟩
    have F_76 : zk_fr fr_M_saysFirst g g40 := by rw [e_74]; exact zk_fu F_72 (Or.inr (Or.inr (Or.inr (Or.inr (Or.inl rfl)))))
    have m_82 : 0 ≤ (g40 214 43) ∧ (g40 214 43) ≤ 90 := I_75.1 214 43
    have m_83 : g40 214 43 = g38 214 43 := by rw [e_74]; exact zi_u_ne (by decide)
    intro g41 e_79
    have I_80 : zk_I g41 := by rw [e_79]; exact zk_upd (L := 0) (H := 90) rfl rfl I_75 ⟨by omega, by omega⟩
    have F_81 : zk_fr fr_M_saysFirst g g41 := by rw [e_79]; exact zk_fu F_76 (Or.inr (Or.inr (Or.inr (Or.inr (Or.inr (Or.inl ⟨rfl, rfl⟩))))))
    have m_84 := zk_now26 I_80 (i := (26 + l1)) (by omega)
    have m_85 : g41 215 (26 + l1) = g40 215 (26 + l1) := by rw [e_79]; exact zi_u_ne (by decide)
    have m_86 := zk_now26 I_75 (i := (26 + l1)) (by omega)
    have m_87 : g40 215 (26 + l1) = g38 215 (26 + l1) := by rw [e_74]; exact zi_u_ne (by decide)
    have m_88 := zk_now26 I_71 (i := (26 + l1)) (by omega)
    have m_89 : g38 215 (26 + l1) = g29 215 (26 + l1) := by rw [e_70]; exact zi_u_ne (by decide)
    have m_90 := zk_now26 I_62 (i := (26 + l1)) (by omega)
    have m_91 : 0 ≤ (g41 214 43) ∧ (g41 214 43) ≤ 90 := I_80.1 214 43
    have m_92 : g41 214 43 = (g40 214 43) + 1 := by rw [e_79]; exact zi_u_eq
    exact hQ _ I_80 F_81 (by omega) (by omega) (by first | exact zNY_n I (zNa0_of ⟨by omega, by omega⟩ (by assumption) (by assumption)) (by assumption) ⟨by omega, by omega⟩ (zk_now26 I (i := (26 + l1)) (by omega)) (by assumption) (zNY_r (by assumption) l1) (by omega) | exact zNY_y I (zNa0_of ⟨by omega, by omega⟩ (by assumption) (by assumption)) (by assumption) ⟨by omega, by omega⟩ (zk_now26 I (i := (26 + l1)) (by omega)) (by assumption) (zNY_r (by assumption) l1) (by omega) (by assumption) ⟨by omega, by omega⟩ (by assumption) (by assumption) (by assumption))
  · have m_93 := zk_now26 I_62 (i := (26 + l1)) (by omega)
    have m_94 : 0 ≤ (g29 214 43) ∧ (g29 214 43) ≤ 90 := I_62.1 214 43
    exact hQ _ I_62 F_63 (by omega) (by omega) (by first | exact zNY_n I (zNa0_of ⟨by omega, by omega⟩ (by assumption) (by assumption)) (by assumption) ⟨by omega, by omega⟩ (zk_now26 I (i := (26 + l1)) (by omega)) (by assumption) (zNY_r (by assumption) l1) (by omega) | exact zNY_y I (zNa0_of ⟨by omega, by omega⟩ (by assumption) (by assumption)) (by assumption) ⟨by omega, by omega⟩ (zk_now26 I (i := (26 + l1)) (by omega)) (by assumption) (zNY_r (by assumption) l1) (by omega) (by assumption) ⟨by omega, by omega⟩ (by assumption) (by assumption) (by assumption))
-- SpoutNewsModel.jetOf(I)I
set_option maxRecDepth 100000 in
set_option maxHeartbeats 4000000 in
theorem k_M_jetOf {l1 : Int} {g : zi_M} {Q : Int → zi_M → Prop} (I : zk_I g) (p1 : 0 ≤ l1 ∧ l1 ≤ 9) (hQ : ∀ (v : Int) (g' : zi_M), zk_I g' → zk_fr fr_M_jetOf g g' → (0 ≤ v ∧ v ≤ 9) → (zLk g → ∀ T : Int, v = zLm (g) 1 l1 0 (zVM T g)) → Q v g') : w_M_jetOf l1 g Q := by
  unfold w_M_jetOf
  refine k_M_asks I ⟨by omega, by omega⟩ ⟨by omega, by omega⟩ (fun g2 I_2 F_3 b_1 => ?_)
  have F_4 : zk_fr fr_M_jetOf g g2 := zk_ft (zk_f0 _) F_3 (fun a i => (fun h => (Or.inl h)))
  have m_5 := zk_rng I_2 215 3
  have m_6 : g2 215 3 = g 215 3 := F_3 _ _ (by unfold fr_M_asks; omega)
  have m_7 := zk_rng I 215 3
  refine k_M_lawTells I_2 ⟨by omega, by omega⟩ ⟨by omega, by omega⟩ ⟨by omega, by omega⟩ (fun v4 g5 I_11 F_12 b_8 b_9 b_10 => ?_)
  have F_13 : zk_fr fr_M_jetOf g g5 := zk_ft F_4 F_12 (fun a i => (fun h => (Or.inr h)))
  exact hQ _ _ I_11 F_13 ⟨by omega, by omega⟩ (by intro hk_ T; exact zLm_v (T := T) I (by assumption) ((by assumption : ∀ T n : Int, 0 ≤ n → n < 9 → _ = zfct _ _ _ (zVM T _) _ _ n) T) (by assumption) (by rw [if_neg (by decide), if_pos rfl, zVM_r ⟨by decide, by decide⟩ (by omega)]; exact zMr_3 (by assumption)) rfl hk_)
-- SpoutNewsModel.rains()I
set_option maxRecDepth 100000 in
set_option maxHeartbeats 4000000 in
theorem k_M_rains_l56 {l2 : Int} {l3 : Int} {K73 : zi_M → Prop} {Q : Int → zi_M → Prop} {g0 : zi_M} (q2 : 0 ≤ l2 ∧ l2 ≤ 9) (q3 : 0 ≤ l3 ∧ l3 ≤ 9) (hK73 : ∀ (g : zi_M), zk_I g → zk_fr fr_M_rains g0 g → (g 214 43 ≤ 9 * l2 + 9) → (zRp (l2 + 1) g0 g) → (l2 < g0 214 6) → K73 g) (hQ : ∀ (v : Int) (g' : zi_M), zk_I g' → zk_fr fr_M_rains g0 g' → ((-2147483648) ≤ v ∧ v ≤ 2147483647) → (zRY g0 g') → (v = zi_w (g' 215 4 - g0 215 4)) → Q v g') : ∀ (n : Nat) {l4 : Int} {g : zi_M}, zk_I g → zk_fr fr_M_rains g0 g → (0 ≤ l4 ∧ l4 ≤ 9) → (g 214 43 ≤ 9 * l2 + l4) → (l3 - l4 ≤ g 215 (26 + l2)) → (l4 ≤ l3) → (l2 < g0 214 6) → (zRj l2 l3 g0) → (zRn l2 l4 g0 g) → 9 - l4 < (n : Int) → w_M_rains_l56 l2 l3 K73 Q n l4 g
  | 0, l4, g, I, F, b0, b1, b2, b3, b4, b5, b6, hm => by exfalso; omega
  | n + 1, l4, g, I, F, b0, b1, b2, b3, b4, b5, b6, hm => by
    unfold w_M_rains_l56
    refine ⟨⟨by omega, by omega⟩, ⟨by omega, by omega⟩, ?_⟩
    refine ⟨fun c12 => ?_, fun c12 => ?_⟩
    · have m_11 : 0 ≤ (g 214 43) ∧ (g 214 43) ≤ 90 := I.1 214 43
      exact hK73 _ I F (by omega) (by exact zRn_x (by assumption) (by assumption) (by omega) (by omega)) (by assumption)
    · have m_12 := zk_now26 I (i := (26 + l2)) (by omega)
      have m_13 : 0 ≤ (g 214 43) ∧ (g 214 43) ≤ 90 := I.1 214 43
      refine k_M_saysFirst I ⟨by omega, by omega⟩ (by omega) (by omega) (fun g10 I_17 F_18 b_14 b_15 b_16 => ?_)
      have F_19 : zk_fr fr_M_rains g0 g10 := zk_ft F F_18 (fun a i => (fun h => Or.elim h (fun h => (Or.inl h)) (fun h => Or.elim h (fun h => (Or.inr (Or.inl h))) (fun h => Or.elim h (fun h => (Or.inr (Or.inr (Or.inl h)))) (fun h => Or.elim h (fun h => (Or.inr (Or.inr (Or.inr (Or.inl h))))) (fun h => Or.elim h (fun h => (Or.inr (Or.inr (Or.inr (Or.inr (Or.inl h)))))) (fun h => Or.elim h (fun h => (Or.inr (Or.inr (Or.inr (Or.inr (Or.inr (Or.inl h))))))) (fun h => Or.elim h (fun h => (Or.inr (Or.inr (Or.inr (Or.inr (Or.inr (Or.inr (Or.inl h)))))))) (fun h => Or.elim h (fun h => (Or.inr (Or.inr (Or.inr (Or.inr (Or.inr (Or.inr (Or.inr (Or.inr (Or.inl h)))))))))) (fun h => Or.elim h (fun h => (Or.inr (Or.inr (Or.inr (Or.inr (Or.inr (Or.inr (Or.inr (Or.inr (Or.inr (Or.inl h))))))))))) (fun h => Or.elim h (fun h => (Or.inr (Or.inr (Or.inr (Or.inr (Or.inr (Or.inr (Or.inr (Or.inr (Or.inr (Or.inr (Or.inl h)))))))))))) (fun h => Or.elim h (fun h => (Or.inr (Or.inr (Or.inr (Or.inr (Or.inr (Or.inr (Or.inr (Or.inr (Or.inr (Or.inr (Or.inr (Or.inl h))))))))))))) (fun h => Or.elim h (fun h => (Or.inr (Or.inr (Or.inr (Or.inr (Or.inr (Or.inr (Or.inr (Or.inr (Or.inr (Or.inr (Or.inr (Or.inr (Or.inl h)))))))))))))) (fun h => (Or.inr (Or.inr (Or.inr (Or.inr (Or.inr (Or.inr (Or.inr (Or.inr (Or.inr (Or.inr (Or.inr (Or.inr (Or.inr h)))))))))))))))))))))))))))
      have m_20 : 0 ≤ (g10 214 43) ∧ (g10 214 43) ≤ 90 := I_17.1 214 43
      have m_21 := zk_now26 I_17 (i := (26 + l2)) (by omega)
      exact k_M_rains_l56 q2 q3 hK73 hQ n I_17 F_19 ⟨by omega, by omega⟩ (by omega) (by omega) (by omega) (by first | assumption | (have hf := (zMfr_r F).2.2.1; omega)) (by first | assumption | exact zRj_0 (by assumption) ⟨by omega, by omega⟩ ⟨by assumption, by assumption⟩ (by assumption) | exact zRj_1 (by assumption) ⟨by omega, by omega⟩ (zMfr_r F) ⟨by assumption, by assumption⟩ (by assumption) (by assumption) (by omega)) (by first | exact zRn_0 (by assumption) | exact zRn_j (by assumption) (by assumption) | exact zRn_s (by assumption) (zMfr_r F) (by omega) (by assumption)) (by omega)
set_option maxRecDepth 100000 in
set_option maxHeartbeats 4000000 in
theorem k_M_rains_l14 {K79 : zi_M → Prop} {Q : Int → zi_M → Prop} {g0 : zi_M} (hK79 : ∀ (g : zi_M), zk_I g → zk_fr fr_M_rains g0 g → (zRQ g0 g) → K79 g) (hQ : ∀ (v : Int) (g' : zi_M), zk_I g' → zk_fr fr_M_rains g0 g' → ((-2147483648) ≤ v ∧ v ≤ 2147483647) → (zRY g0 g') → (v = zi_w (g' 215 4 - g0 215 4)) → Q v g') : ∀ (n : Nat) {l2 : Int} {g : zi_M}, zk_I g → zk_fr fr_M_rains g0 g → (0 ≤ l2 ∧ l2 ≤ 10) → (g 214 43 ≤ 9 * l2) → (l2 ≤ g0 214 6) → (zRp l2 g0 g) → 10 - l2 < (n : Int) → w_M_rains_l14 K79 Q n l2 g
  | 0, l2, g, I, F, b0, b1, b2, b3, hm => by exfalso; omega
  | n + 1, l2, g, I, F, b0, b1, b2, b3, hm => by
    unfold w_M_rains_l14
    have m_4 : 0 ≤ (g 214 6) ∧ (g 214 6) ≤ 10 := I.1 214 6
    refine ⟨⟨by omega, by omega⟩, ⟨by omega, by omega⟩, ?_⟩
    refine ⟨fun c25 => ?_, fun c25 => ?_⟩
    · exact hK79 _ I F (by exact zRp_x (by assumption) (by have hf := (zMfr_r F).2.2.1; omega))
    · have m_9 := zk_now6 I (i := (6 + l2)) (by omega)
      have m_10 := zk_rng I 215 3
      refine k_M_canSay I ⟨by omega, by omega⟩ (fun v4 b_5 b_6 b_7 b_8 => ?_)
      refine ⟨fun c24 => ?_, fun c24 => ?_⟩
      · have m_28 : 0 ≤ (g 214 43) ∧ (g 214 43) ≤ 90 := I.1 214 43
        have m_29 := zk_now26 I (i := (26 + l2)) (by omega)
        refine ⟨((9 - 0 : Int).toNat + 1), k_M_rains_l56 (l2 := l2) (l3 := 0) ⟨by omega, by omega⟩ ⟨by omega, by omega⟩ (fun g13 I_22 F_23 b_24 b_25 b_26 => ?_) hQ ((9 - 0 : Int).toNat + 1) I F ⟨by omega, by omega⟩ (by omega) (by omega) (by omega) (by first | assumption | (have hf := (zMfr_r F).2.2.1; omega)) (by first | assumption | exact zRj_0 (by assumption) ⟨by omega, by omega⟩ ⟨by assumption, by assumption⟩ (by assumption) | exact zRj_1 (by assumption) ⟨by omega, by omega⟩ (zMfr_r F) ⟨by assumption, by assumption⟩ (by assumption) (by assumption) (by omega)) (by first | exact zRn_0 (by assumption) | exact zRn_j (by assumption) (by assumption) | exact zRn_s (by assumption) (zMfr_r F) (by omega) (by assumption)) (by omega)⟩
        have m_27 : 0 ≤ (g13 214 43) ∧ (g13 214 43) ≤ 90 := I_22.1 214 43
        exact k_M_rains_l14 hK79 hQ n I_22 F_23 ⟨by omega, by omega⟩ (by omega) (by first | omega | (have hf := (zMfr_r F).2.2.1; omega) | (have hz := zk_r6 I; omega)) (by first | assumption | exact zRp_0 (by assumption)) (by omega)
      · refine ⟨⟨by omega, by omega⟩, ?_⟩
        refine k_M_jetOf I ⟨by omega, by omega⟩ (fun v16 g17 I_32 F_33 b_30 b_31 => ?_)
        have F_34 : zk_fr fr_M_rains g0 g17 := zk_ft F F_33 (fun a i => (fun h => Or.elim h (fun h => (Or.inr (Or.inl h))) (fun h => (Or.inr (Or.inr (Or.inl h))))))
        have m_35 := zk_now26 I (i := (26 + l2)) (by omega)
        refine k_M_lesser I_32 ⟨by omega, by omega⟩ ⟨by omega, by omega⟩ (fun v19 b_36 b_37 => ?_)
        have m_44 : 0 ≤ (g17 214 43) ∧ (g17 214 43) ≤ 90 := I_32.1 214 43
        have m_45 : g17 214 43 = g 214 43 := F_33 _ _ (by unfold fr_M_jetOf; omega)
        have m_46 : 0 ≤ (g 214 43) ∧ (g 214 43) ≤ 90 := I.1 214 43
        have m_47 := zk_now26 I_32 (i := (26 + l2)) (by omega)
        have m_48 : g17 215 (26 + l2) = g 215 (26 + l2) := F_33 _ _ (by unfold fr_M_jetOf; omega)
        refine ⟨((9 - 0 : Int).toNat + 1), k_M_rains_l56 (l2 := l2) (l3 := v19) ⟨by omega, by omega⟩ ⟨by omega, by omega⟩ (fun g22 I_38 F_39 b_40 b_41 b_42 => ?_) hQ ((9 - 0 : Int).toNat + 1) I_32 F_34 ⟨by omega, by omega⟩ (by omega) (by omega) (by omega) (by first | assumption | (have hf := (zMfr_r F).2.2.1; omega)) (by first | assumption | exact zRj_0 (by assumption) ⟨by omega, by omega⟩ ⟨by assumption, by assumption⟩ (by assumption) | exact zRj_1 (by assumption) ⟨by omega, by omega⟩ (zMfr_r F) ⟨by assumption, by assumption⟩ (by assumption) (by assumption) (by omega)) (by first | exact zRn_0 (by assumption) | exact zRn_j (by assumption) (by assumption) | exact zRn_s (by assumption) (zMfr_r F) (by omega) (by assumption)) (by omega)⟩
        have m_43 : 0 ≤ (g22 214 43) ∧ (g22 214 43) ≤ 90 := I_38.1 214 43
        exact k_M_rains_l14 hK79 hQ n I_38 F_39 ⟨by omega, by omega⟩ (by omega) (by first | omega | (have hf := (zMfr_r F).2.2.1; omega) | (have hz := zk_r6 I; omega)) (by first | assumption | exact zRp_0 (by assumption)) (by omega)
set_option maxRecDepth 100000 in
set_option maxHeartbeats 4000000 in
theorem k_M_rains_l81 {K149 : zi_M → Prop} {Q : Int → zi_M → Prop} {g0 : zi_M} (hK149 : ∀ (g : zi_M), zk_I g → zk_fr fr_M_rains g0 g → (zRL g0 g) → K149 g) (hQ : ∀ (v : Int) (g' : zi_M), zk_I g' → zk_fr fr_M_rains g0 g' → ((-2147483648) ≤ v ∧ v ≤ 2147483647) → (zRY g0 g') → (v = zi_w (g' 215 4 - g0 215 4)) → Q v g') : ∀ (n : Nat) {l2 : Int} {g : zi_M}, zk_I g → zk_fr fr_M_rains g0 g → (0 ≤ l2 ∧ l2 ≤ 90) → (l2 ≤ g 214 43) → (zRl l2 g0 g) → 90 - l2 < (n : Int) → w_M_rains_l81 K149 Q n l2 g
  | 0, l2, g, I, F, b0, b1, b2, hm => by exfalso; omega
  | n + 1, l2, g, I, F, b0, b1, b2, hm => by
    unfold w_M_rains_l81
    have m_52 : 0 ≤ (g 214 43) ∧ (g 214 43) ≤ 90 := I.1 214 43
    refine ⟨⟨by omega, by omega⟩, ⟨by omega, by omega⟩, ?_⟩
    refine ⟨fun c40 => ?_, fun c40 => ?_⟩
    · exact hK149 _ I F (by exact zRl_x b2 (by omega))
    · refine ⟨⟨by omega, by omega⟩, ?_⟩
      have m_53 : 0 ≤ (g 237 l2) ∧ (g 237 l2) ≤ 9 := I.1 237 l2
      refine ⟨⟨by omega, by omega⟩, ?_⟩
      have m_54 := zk_now6 I (i := (6 + (g 237 l2))) (by omega)
      refine ⟨⟨by omega, by omega⟩, ?_⟩
      refine ⟨fun c39 => ?_, fun c39 => ?_⟩
      · exact k_M_rains_l81 hK149 hQ n I F ⟨by omega, by omega⟩ (by first | omega | (have hz := zk_r43 (by assumption); omega)) (by first | exact zRl_0 (by assumption) | exact zRl_a b2 (by omega) (by omega) ⟨by omega, by omega⟩ (by assumption) | exact zRl_b b2 (by omega) (by omega) (by assumption) (by assumption) (by assumption) | exact zRl_c b2 (by omega) (by omega) ⟨by omega, by omega⟩ (by assumption) (by assumption) (by assumption) (by assumption) (by assumption) (by omega) (by assumption) (zMfr_r (by assumption))) (by omega)
      · have m_55 : 0 ≤ (g 238 l2) ∧ (g 238 l2) ≤ 15 := I.1 238 l2
        refine k_M_comesTo I ⟨by omega, by omega⟩ ⟨by omega, by omega⟩ (fun v32 g33 I_58 F_59 b_56 b_57 => ?_)
        have F_60 : zk_fr fr_M_rains g0 g33 := zk_ft F F_59 (fun a i => (fun h => Or.elim h (fun h => (Or.inr (Or.inr (Or.inr (Or.inr (Or.inr (Or.inr (Or.inr (Or.inr (Or.inr (Or.inr (Or.inl h)))))))))))) (fun h => (Or.inr (Or.inr (Or.inr (Or.inr (Or.inr (Or.inr (Or.inr (Or.inr (Or.inr (Or.inr (Or.inr (Or.inl h)))))))))))))))
        refine ⟨fun c38 => ?_, fun c38 => ?_⟩
        · have m_61 : 0 ≤ (g33 214 43) ∧ (g33 214 43) ≤ 90 := I_58.1 214 43
          have m_62 : g33 214 43 = g 214 43 := F_59 _ _ (by unfold fr_M_comesTo; omega)
          exact k_M_rains_l81 hK149 hQ n I_58 F_60 ⟨by omega, by omega⟩ (by first | omega | (have hz := zk_r43 (by assumption); omega)) (by first | exact zRl_0 (by assumption) | exact zRl_a b2 (by omega) (by omega) ⟨by omega, by omega⟩ (by assumption) | exact zRl_b b2 (by omega) (by omega) (by assumption) (by assumption) (by assumption) | exact zRl_c b2 (by omega) (by omega) ⟨by omega, by omega⟩ (by assumption) (by assumption) (by assumption) (by assumption) (by assumption) (by omega) (by assumption) (zMfr_r (by assumption))) (by omega)
        · have m_63 : 0 ≤ (g33 237 l2) ∧ (g33 237 l2) ≤ 9 := I_58.1 237 l2
          have m_64 : g33 237 l2 = g 237 l2 := F_59 _ _ (by unfold fr_M_comesTo; omega)
          have m_65 : 0 ≤ (g33 238 l2) ∧ (g33 238 l2) ≤ 15 := I_58.1 238 l2
          have m_66 : g33 238 l2 = g 238 l2 := F_59 _ _ (by unfold fr_M_comesTo; omega)
          refine k_M_notes I_58 ⟨by omega, by omega⟩ ⟨by omega, by omega⟩ ⟨by omega, by omega⟩ (fun g36 I_68 F_69 b_67 => ?_)
          have F_70 : zk_fr fr_M_rains g0 g36 := zk_ft F_60 F_69 (fun a i => (fun h => Or.elim h (fun h => (Or.inl h)) (fun h => (Or.inr (Or.inr (Or.inr (Or.inr (Or.inr (Or.inr (Or.inr (Or.inr (Or.inl h))))))))))))
          have m_71 : 0 ≤ (g36 214 43) ∧ (g36 214 43) ≤ 90 := I_68.1 214 43
          have m_72 : g36 214 43 = g33 214 43 := F_69 _ _ (by unfold fr_M_notes; omega)
          have m_73 : 0 ≤ (g33 214 43) ∧ (g33 214 43) ≤ 90 := I_58.1 214 43
          have m_74 : g33 214 43 = g 214 43 := F_59 _ _ (by unfold fr_M_comesTo; omega)
          exact k_M_rains_l81 hK149 hQ n I_68 F_70 ⟨by omega, by omega⟩ (by first | omega | (have hz := zk_r43 (by assumption); omega)) (by first | exact zRl_0 (by assumption) | exact zRl_a b2 (by omega) (by omega) ⟨by omega, by omega⟩ (by assumption) | exact zRl_b b2 (by omega) (by omega) (by assumption) (by assumption) (by assumption) | exact zRl_c b2 (by omega) (by omega) ⟨by omega, by omega⟩ (by assumption) (by assumption) (by assumption) (by assumption) (by assumption) (by omega) (by assumption) (zMfr_r (by assumption))) (by omega)
set_option maxRecDepth 100000 in
set_option maxHeartbeats 4000000 in
theorem k_M_rains_l151 {K175 : zi_M → Prop} {Q : Int → zi_M → Prop} {g0 : zi_M} (hK175 : ∀ (g : zi_M), zk_I g → zk_fr fr_M_rains g0 g → (zRY g0 g) → K175 g) (hQ : ∀ (v : Int) (g' : zi_M), zk_I g' → zk_fr fr_M_rains g0 g' → ((-2147483648) ≤ v ∧ v ≤ 2147483647) → (zRY g0 g') → (v = zi_w (g' 215 4 - g0 215 4)) → Q v g') : ∀ (n : Nat) {l2 : Int} {g : zi_M}, zk_I g → zk_fr fr_M_rains g0 g → (0 ≤ l2 ∧ l2 ≤ 10) → (l2 ≤ g0 214 6) → (zRZ l2 g0 g) → 10 - l2 < (n : Int) → w_M_rains_l151 K175 Q n l2 g
  | 0, l2, g, I, F, b0, b1, b2, hm => by exfalso; omega
  | n + 1, l2, g, I, F, b0, b1, b2, hm => by
    unfold w_M_rains_l151
    have m_78 : 0 ≤ (g 214 6) ∧ (g 214 6) ≤ 10 := I.1 214 6
    refine ⟨⟨by omega, by omega⟩, ⟨by omega, by omega⟩, ?_⟩
    refine ⟨fun c46 => ?_, fun c46 => ?_⟩
    · exact hK175 _ I F (by exact zRZ_x (by assumption) (by have hf := (zMfr_r F).2.2.1; omega))
    · refine ⟨⟨by omega, by omega⟩, ?_⟩
      intro g45 e_79
      have I_80 : zk_I g45 := by rw [e_79]; exact zk_upd (zk_nl16 (i := 16 + l2) (by omega)).1 (zk_nl16 (i := 16 + l2) (by omega)).2 I ⟨by omega, by omega⟩
      have F_81 : zk_fr fr_M_rains g0 g45 := by rw [e_79]; exact zk_fu F (Or.inr (Or.inr (Or.inr (Or.inr (Or.inr (Or.inr (Or.inr (Or.inl ⟨rfl, by omega, by omega⟩))))))))
      exact k_M_rains_l151 hK175 hQ n I_80 F_81 ⟨by omega, by omega⟩ (by first | omega | (have hf := (zMfr_r F).2.2.1; omega) | (have hz := zk_r6 I; omega)) (by first | exact zRZ_0 (by assumption) | exact zRZ_s (by assumption) (by omega) (by omega) (by assumption)) (by omega)
set_option maxRecDepth 100000 in
set_option maxHeartbeats 4000000 in
theorem k_M_rains {g : zi_M} {Q : Int → zi_M → Prop} (I : zk_I g) (hQ : ∀ (v : Int) (g' : zi_M), zk_I g' → zk_fr fr_M_rains g g' → ((-2147483648) ≤ v ∧ v ≤ 2147483647) → (zRY g g') → (v = zi_w (g' 215 4 - g 215 4)) → Q v g') : w_M_rains g Q := by
  unfold w_M_rains
  intro g1 e_1
  have I_2 : zk_I g1 := by rw [e_1]; exact zk_upd (L := 0) (H := 90) rfl rfl I ⟨by omega, by omega⟩
  have F_3 : zk_fr fr_M_rains g g1 := by rw [e_1]; exact zk_fu (zk_f0 _) (Or.inr (Or.inr (Or.inr (Or.inr (Or.inr (Or.inl ⟨rfl, rfl⟩))))))
  have m_89 : 0 ≤ (g1 214 43) ∧ (g1 214 43) ≤ 90 := I_2.1 214 43
  have m_90 : g1 214 43 = 0 := by rw [e_1]; exact zi_u_eq
  refine ⟨((10 - 0 : Int).toNat + 1), k_M_rains_l14 (fun g26 I_49 F_50 b_51 => ?_) hQ ((10 - 0 : Int).toNat + 1) I_2 F_3 ⟨by omega, by omega⟩ (by omega) (by first | omega | (have hf := (zMfr_r F).2.2.1; omega) | (have hz := zk_r6 I; omega)) (by first | assumption | exact zRp_0 (by assumption)) (by omega)⟩
  have m_88 : 0 ≤ (g26 214 43) ∧ (g26 214 43) ≤ 90 := I_49.1 214 43
  refine ⟨((90 - 0 : Int).toNat + 1), k_M_rains_l81 (fun g41 I_75 F_76 b_77 => ?_) hQ ((90 - 0 : Int).toNat + 1) I_49 F_50 ⟨by omega, by omega⟩ (by first | omega | (have hz := zk_r43 (by assumption); omega)) (by first | exact zRl_0 (by assumption) | exact zRl_a b2 (by omega) (by omega) ⟨by omega, by omega⟩ (by assumption) | exact zRl_b b2 (by omega) (by omega) (by assumption) (by assumption) (by assumption) | exact zRl_c b2 (by omega) (by omega) ⟨by omega, by omega⟩ (by assumption) (by assumption) (by assumption) (by assumption) (by assumption) (by omega) (by assumption) (zMfr_r (by assumption))) (by omega)⟩
  refine ⟨((10 - 0 : Int).toNat + 1), k_M_rains_l151 (fun g47 I_82 F_83 b_84 => ?_) hQ ((10 - 0 : Int).toNat + 1) I_75 F_76 ⟨by omega, by omega⟩ (by first | omega | (have hf := (zMfr_r F).2.2.1; omega) | (have hz := zk_r6 I; omega)) (by first | exact zRZ_0 (by assumption) | exact zRZ_s (by assumption) (by omega) (by omega) (by assumption)) (by omega)⟩
  have m_85 := zk_rng I_82 215 4
  have m_86 := zk_rng I 215 4
  have m_87 := zi_r_w ((g47 215 4) - (g 215 4))
  exact hQ _ _ I_82 F_83 ⟨by omega, by omega⟩ (by assumption) (by rfl)
