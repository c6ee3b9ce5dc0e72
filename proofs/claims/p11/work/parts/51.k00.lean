-- by program (wip/gen/mkz.py)
-- SpoutNews$Past.forget()V
set_option maxRecDepth 100000 in
set_option maxHeartbeats 4000000 in
theorem k_Past_forget {g : zi_M} {Q : Int → zi_M → Prop} (I : zk_I g) (hQ : ∀ g' : zi_M, zk_I g' → zk_fr fr_Past_forget g g' → (g' 91 1 = 0) → Q 0 g') : w_Past_forget g Q := by
  unfold w_Past_forget
  intro g1 e_1
  have I_2 : zk_I g1 := by rw [e_1]; exact zk_upd (L := 0) (H := 6) rfl rfl I ⟨by omega, by omega⟩
  have F_3 : zk_fr fr_Past_forget g g1 := by rw [e_1]; exact zk_fu (zk_f0 _) ⟨rfl, rfl⟩
  have m_4 : 0 ≤ (g1 91 1) ∧ (g1 91 1) ≤ 6 := I_2.1 91 1
  have m_5 : g1 91 1 = 0 := by rw [e_1]; exact zi_u_eq
  exact hQ _ I_2 F_3 (by omega)
-- SpoutNews.state(I)I
set_option maxRecDepth 100000 in
set_option maxHeartbeats 4000000 in
theorem k_S_state {l1 : Int} {g : zi_M} {Q : Int → zi_M → Prop} (I : zk_I g) (p1 : (-2147483648) ≤ l1 ∧ l1 ≤ 2147483647) (hQ : ∀ (v : Int) (g' : zi_M), zk_I g' → zk_fr fr_S_state g g' → ((-2147483648) ≤ v ∧ v ≤ 2147483647) → (g' 91 1 = 0) → Q v g') : w_S_state l1 g Q := by
  unfold w_S_state
  intro g1 e_1
  have I_2 : zk_I g1 := by rw [e_1]; exact zk_upd (L := (-2147483648)) (H := 2147483647) rfl rfl I ⟨by omega, by omega⟩
  have F_3 : zk_fr fr_S_state g g1 := by rw [e_1]; exact zk_fu (zk_f0 _) (Or.inl ⟨rfl, rfl⟩)
  refine k_Past_forget I_2 (fun g3 I_5 F_6 b_4 => ?_)
  have F_7 : zk_fr fr_S_state g g3 := zk_ft F_3 F_6 (fun a i => (fun h => (Or.inr h)))
  have m_8 : (-2147483648) ≤ (g 2 18) ∧ (g 2 18) ≤ 2147483647 := I.1 2 18
  have m_9 : 0 ≤ (g3 91 1) ∧ (g3 91 1) ≤ 6 := I_5.1 91 1
  exact hQ _ _ I_5 F_7 ⟨by omega, by omega⟩ (by omega)
-- SpoutNewsModel.state(I)I
set_option maxRecDepth 100000 in
set_option maxHeartbeats 4000000 in
theorem k_M_state {l1 : Int} {g : zi_M} {Q : Int → zi_M → Prop} (I : zk_I g) (p1 : (-2147483648) ≤ l1 ∧ l1 ≤ 2147483647) (hQ : ∀ (v : Int) (g' : zi_M), zk_I g' → zk_fr fr_M_state g g' → ((-2147483648) ≤ v ∧ v ≤ 2147483647) → Q v g') : w_M_state l1 g Q := by
  unfold w_M_state
  intro g1 e_1
  have I_2 : zk_I g1 := by rw [e_1]; exact zk_upd (L := (-2147483648)) (H := 2147483647) rfl rfl I ⟨by omega, by omega⟩
  have F_3 : zk_fr fr_M_state g g1 := by rw [e_1]; exact zk_fu (zk_f0 _) (Or.inl ⟨rfl, rfl⟩)
  intro g2 e_4
  have I_5 : zk_I g2 := by rw [e_4]; exact zk_upd (zk_nl0 (i := 1) (by omega)).1 (zk_nl0 (i := 1) (by omega)).2 I_2 ⟨by omega, by omega⟩
  have F_6 : zk_fr fr_M_state g g2 := by rw [e_4]; exact zk_fu F_3 (Or.inr (Or.inr ⟨rfl, by omega, by omega⟩))
  intro g3 e_7
  have I_8 : zk_I g3 := by rw [e_7]; exact zk_upd (L := 0) (H := 6) rfl rfl I_5 ⟨by omega, by omega⟩
  have F_9 : zk_fr fr_M_state g g3 := by rw [e_7]; exact zk_fu F_6 (Or.inr (Or.inl ⟨rfl, rfl⟩))
  have m_10 := zk_rng I_2 215 1
  have m_11 : g1 215 1 = g 215 1 := by rw [e_1]; exact zi_u_ne (by decide)
  have m_12 := zk_rng I 215 1
  exact hQ _ _ I_8 F_9 ⟨by omega, by omega⟩
-- SpoutNews$World.addSpout(III)I
set_option maxRecDepth 100000 in
set_option maxHeartbeats 4000000 in
theorem k_World_addSpout {l1 : Int} {l2 : Int} {l3 : Int} {g : zi_M} {Q : Int → zi_M → Prop} (I : zk_I g) (p1 : 0 ≤ l1 ∧ l1 ≤ 5) (p2 : 0 ≤ l2 ∧ l2 ≤ 3) (p3 : 0 ≤ l3 ∧ l3 ≤ 99) (hQ : ∀ (v : Int) (g' : zi_M), zk_I g' → zk_fr fr_World_addSpout g g' → ((-1) ≤ v ∧ v ≤ 9) → (g 2 8 < 10 → v = g 2 8 ∧ g' 2 8 = g 2 8 + 1) → (∀ k : Int, 0 ≤ k ∧ k < 10 → (g 2 8 < 10 ∧ k = g 2 8 → g' 5 k = l3) ∧ (¬ (g 2 8 < 10 ∧ k = g 2 8) → g' 5 k = g 5 k)) → Q v g') : w_World_addSpout l1 l2 l3 g Q := by
  unfold w_World_addSpout
  have m_1 : 0 ≤ (g 2 8) ∧ (g 2 8) ≤ 10 := I.1 2 8
  refine ⟨⟨by omega, by omega⟩, ?_⟩
  refine ⟨fun c10 => ?_, fun c10 => ?_⟩
  · refine ⟨⟨by omega, by omega⟩, ?_⟩
    intro g3 e_2
    have I_3 : zk_I g3 := by rw [e_2]; exact zk_upd (L := 0) (H := 5) rfl rfl I ⟨by omega, by omega⟩
    have F_4 : zk_fr fr_World_addSpout g g3 := by rw [e_2]; exact zk_fu (zk_f0 _) (Or.inl rfl)
    intro g4 e_5
    have I_6 : zk_I g4 := by rw [e_5]; exact zk_upd (L := 0) (H := 3) rfl rfl I_3 ⟨by omega, by omega⟩
    have F_7 : zk_fr fr_World_addSpout g g4 := by rw [e_5]; exact zk_fu F_4 (Or.inr (Or.inl rfl))
    intro g5 e_8
    have I_9 : zk_I g5 := by rw [e_8]; exact zk_upd (L := 0) (H := 99) rfl rfl I_6 ⟨by omega, by omega⟩
    have F_10 : zk_fr fr_World_addSpout g g5 := by rw [e_8]; exact zk_fu F_7 (Or.inr (Or.inr (Or.inl rfl)))
    intro g6 e_11
    have I_12 : zk_I g6 := by rw [e_11]; exact zk_upd (L := 0) (H := 2) rfl rfl I_9 ⟨by omega, by omega⟩
    have F_13 : zk_fr fr_World_addSpout g g6 := by rw [e_11]; exact zk_fu F_10 (Or.inr (Or.inr (Or.inr (Or.inl rfl))))
    intro g7 e_14
    have I_15 : zk_I g7 := by rw [e_14]; exact zk_upd (L := 0) (H := 999) rfl rfl I_12 ⟨by omega, by omega⟩
    have F_16 : zk_fr fr_World_addSpout g g7 := by rw [e_14]; exact zk_fu F_13 (Or.inr (Or.inr (Or.inr (Or.inr (Or.inl rfl)))))
    intro g8 e_17
    have I_18 : zk_I g8 := by rw [e_17]; exact zk_upd (L := 0) (H := 20) rfl rfl I_15 ⟨by omega, by omega⟩
    have F_19 : zk_fr fr_World_addSpout g g8 := by rw [e_17]; exact zk_fu F_16 (Or.inr (Or.inr (Or.inr (Or.inr (Or.inr (Or.inl rfl))))))
    intro g9 e_20
    have I_21 : zk_I g9 := by rw [e_20]; exact zk_upd (L := 0) (H := 10) rfl rfl I_18 ⟨by omega, by omega⟩
    have F_22 : zk_fr fr_World_addSpout g g9 := by rw [e_20]; exact zk_fu F_19 (Or.inr (Or.inr (Or.inr (Or.inr (Or.inr (Or.inr ⟨rfl, rfl⟩))))))
    have m_23 : 0 ≤ (g9 2 8) ∧ (g9 2 8) ≤ 10 := I_21.1 2 8
    have m_24 : g9 2 8 = (g 2 8) + 1 := by rw [e_20]; exact zi_u_eq
    have z_40 : ∀ k : Int, 0 ≤ k ∧ k < 10 → (g 2 8 < 10 ∧ k = g 2 8 → g9 5 k = l3) ∧ (¬ (g 2 8 < 10 ∧ k = g 2 8) → g9 5 k = g 5 k) := by
      intro k hk
      have m_25 : 0 ≤ (g9 5 k) ∧ (g9 5 k) ≤ 99 := I_21.1 5 k
      have m_26 : g9 5 k = g8 5 k := by rw [e_20]; exact zi_u_ne (by decide)
      have m_27 : 0 ≤ (g8 5 k) ∧ (g8 5 k) ≤ 99 := I_18.1 5 k
      have m_28 : g8 5 k = g7 5 k := by rw [e_17]; exact zi_u_ne (by decide)
      have m_29 : 0 ≤ (g7 5 k) ∧ (g7 5 k) ≤ 99 := I_15.1 5 k
      have m_30 : g7 5 k = g6 5 k := by rw [e_14]; exact zi_u_ne (by decide)
      have m_31 : 0 ≤ (g6 5 k) ∧ (g6 5 k) ≤ 99 := I_12.1 5 k
      have m_32 : g6 5 k = g5 5 k := by rw [e_11]; exact zi_u_ne (by decide)
      have m_33 : 0 ≤ (g5 5 k) ∧ (g5 5 k) ≤ 99 := I_9.1 5 k
      have m_34 : 0 ≤ (g4 5 k) ∧ (g4 5 k) ≤ 99 := I_6.1 5 k
      have m_35 : g4 5 k = g3 5 k := by rw [e_5]; exact zi_u_ne (by decide)
      have m_36 : 0 ≤ (g3 5 k) ∧ (g3 5 k) ≤ 99 := I_3.1 5 k
      have m_37 : g3 5 k = g 5 k := by rw [e_2]; exact zi_u_ne (by decide)
      have m_38 : 0 ≤ (g 5 k) ∧ (g 5 k) ≤ 99 := I.1 5 k
      have m_39 : (k = g 2 8 → g5 5 k = l3) ∧ (¬ k = g 2 8 → g5 5 k = g4 5 k) := by rw [e_8]; exact zi_u_if
      omega
    exact hQ _ _ I_21 F_22 ⟨by omega, by omega⟩ (by omega) z_40
  · have z_42 : ∀ k : Int, 0 ≤ k ∧ k < 10 → (g 2 8 < 10 ∧ k = g 2 8 → g 5 k = l3) ∧ (¬ (g 2 8 < 10 ∧ k = g 2 8) → g 5 k = g 5 k) := by
      intro k hk
      have m_41 : 0 ≤ (g 5 k) ∧ (g 5 k) ≤ 99 := I.1 5 k
      omega
    exact hQ _ _ I (zk_f0 _) ⟨by omega, by omega⟩ (by omega) z_42
-- SpoutNews.spout(III)I
set_option maxRecDepth 100000 in
set_option maxHeartbeats 4000000 in
theorem k_S_spout {l1 : Int} {l2 : Int} {l3 : Int} {g : zi_M} {Q : Int → zi_M → Prop} (I : zk_I g) (p1 : (-2147483648) ≤ l1 ∧ l1 ≤ 2147483647) (p2 : (-2147483648) ≤ l2 ∧ l2 ≤ 2147483647) (p3 : (-2147483648) ≤ l3 ∧ l3 ≤ 2147483647) (hQ : ∀ (v : Int) (g' : zi_M), zk_I g' → zk_fr fr_S_spout g g' → ((-1) ≤ v ∧ v ≤ 9) → (0 ≤ l1 ∧ l1 ≤ 5 ∧ 0 ≤ l2 ∧ l2 ≤ 3 ∧ 0 ≤ l3 ∧ l3 ≤ 99 ∧ g 2 8 < 10 → v = g 2 8 ∧ g' 2 8 = g 2 8 + 1) → (¬ (0 ≤ l1 ∧ l1 ≤ 5 ∧ 0 ≤ l2 ∧ l2 ≤ 3 ∧ 0 ≤ l3 ∧ l3 ≤ 99 ∧ g 2 8 < 10) → v = -1 ∧ g' 2 8 = g 2 8) → (¬ v = -1 → g' 91 1 = 0) → (v = -1 → g' = g) → (∀ k : Int, 0 ≤ k ∧ k < 10 → (¬ v = -1 ∧ k = g 2 8 → g' 5 k = l3) ∧ (¬ (¬ v = -1 ∧ k = g 2 8) → g' 5 k = g 5 k)) → Q v g') : w_S_spout l1 l2 l3 g Q := by
  unfold w_S_spout
  refine ⟨⟨by omega, by omega⟩, ?_⟩
  refine ⟨fun c17 => ?_, fun c17 => ?_⟩
  · have m_1 : 0 ≤ (g 2 8) ∧ (g 2 8) ≤ 10 := I.1 2 8
    have m_2 : 0 ≤ (g 91 1) ∧ (g 91 1) ≤ 6 := I.1 91 1
    have z_4 : ∀ k : Int, 0 ≤ k ∧ k < 10 → (¬ ((-1) : Int) = -1 ∧ k = g 2 8 → g 5 k = l3) ∧ (¬ (¬ ((-1) : Int) = -1 ∧ k = g 2 8) → g 5 k = g 5 k) := by
      intro k hk
      have m_3 : 0 ≤ (g 5 k) ∧ (g 5 k) ≤ 99 := I.1 5 k
      omega
    exact hQ _ _ I (zk_f0 _) ⟨by omega, by omega⟩ (by omega) (by omega) (by omega) (by intro hv; first | rfl | assumption | (exfalso; omega)) z_4
  · refine ⟨fun c16 => ?_, fun c16 => ?_⟩
    · have m_5 : 0 ≤ (g 2 8) ∧ (g 2 8) ≤ 10 := I.1 2 8
      have m_6 : 0 ≤ (g 91 1) ∧ (g 91 1) ≤ 6 := I.1 91 1
      have z_8 : ∀ k : Int, 0 ≤ k ∧ k < 10 → (¬ ((-1) : Int) = -1 ∧ k = g 2 8 → g 5 k = l3) ∧ (¬ (¬ ((-1) : Int) = -1 ∧ k = g 2 8) → g 5 k = g 5 k) := by
        intro k hk
        have m_7 : 0 ≤ (g 5 k) ∧ (g 5 k) ≤ 99 := I.1 5 k
        omega
      exact hQ _ _ I (zk_f0 _) ⟨by omega, by omega⟩ (by omega) (by omega) (by omega) (by intro hv; first | rfl | assumption | (exfalso; omega)) z_8
    · refine ⟨⟨by omega, by omega⟩, ?_⟩
      refine ⟨fun c15 => ?_, fun c15 => ?_⟩
      · have m_9 : 0 ≤ (g 2 8) ∧ (g 2 8) ≤ 10 := I.1 2 8
        have m_10 : 0 ≤ (g 91 1) ∧ (g 91 1) ≤ 6 := I.1 91 1
        have z_12 : ∀ k : Int, 0 ≤ k ∧ k < 10 → (¬ ((-1) : Int) = -1 ∧ k = g 2 8 → g 5 k = l3) ∧ (¬ (¬ ((-1) : Int) = -1 ∧ k = g 2 8) → g 5 k = g 5 k) := by
          intro k hk
          have m_11 : 0 ≤ (g 5 k) ∧ (g 5 k) ≤ 99 := I.1 5 k
          omega
        exact hQ _ _ I (zk_f0 _) ⟨by omega, by omega⟩ (by omega) (by omega) (by omega) (by intro hv; first | rfl | assumption | (exfalso; omega)) z_12
      · refine ⟨fun c14 => ?_, fun c14 => ?_⟩
        · have m_13 : 0 ≤ (g 2 8) ∧ (g 2 8) ≤ 10 := I.1 2 8
          have m_14 : 0 ≤ (g 91 1) ∧ (g 91 1) ≤ 6 := I.1 91 1
          have z_16 : ∀ k : Int, 0 ≤ k ∧ k < 10 → (¬ ((-1) : Int) = -1 ∧ k = g 2 8 → g 5 k = l3) ∧ (¬ (¬ ((-1) : Int) = -1 ∧ k = g 2 8) → g 5 k = g 5 k) := by
            intro k hk
            have m_15 : 0 ≤ (g 5 k) ∧ (g 5 k) ≤ 99 := I.1 5 k
            omega
          exact hQ _ _ I (zk_f0 _) ⟨by omega, by omega⟩ (by omega) (by omega) (by omega) (by intro hv; first | rfl | assumption | (exfalso; omega)) z_16
        · refine ⟨⟨by omega, by omega⟩, ?_⟩
          refine ⟨fun c13 => ?_, fun c13 => ?_⟩
          · have m_17 : 0 ≤ (g 2 8) ∧ (g 2 8) ≤ 10 := I.1 2 8
            have m_18 : 0 ≤ (g 91 1) ∧ (g 91 1) ≤ 6 := I.1 91 1
            have z_20 : ∀ k : Int, 0 ≤ k ∧ k < 10 → (¬ ((-1) : Int) = -1 ∧ k = g 2 8 → g 5 k = l3) ∧ (¬ (¬ ((-1) : Int) = -1 ∧ k = g 2 8) → g 5 k = g 5 k) := by
              intro k hk
              have m_19 : 0 ≤ (g 5 k) ∧ (g 5 k) ≤ 99 := I.1 5 k
              omega
            exact hQ _ _ I (zk_f0 _) ⟨by omega, by omega⟩ (by omega) (by omega) (by omega) (by intro hv; first | rfl | assumption | (exfalso; omega)) z_20
          · refine ⟨fun c12 => ?_, fun c12 => ?_⟩
            · have m_21 : 0 ≤ (g 2 8) ∧ (g 2 8) ≤ 10 := I.1 2 8
              refine ⟨⟨by omega, by omega⟩, ?_⟩
              refine ⟨fun c11 => ?_, fun c11 => ?_⟩
              · refine k_Past_forget I (fun g6 I_23 F_24 b_22 => ?_)
                have F_25 : zk_fr fr_S_spout g g6 := zk_ft (zk_f0 _) F_24 (fun a i => (fun h => (Or.inr (Or.inr (Or.inr (Or.inr (Or.inr (Or.inr (Or.inr h)))))))))
                have m_26 : 0 ≤ (g6 2 8) ∧ (g6 2 8) ≤ 10 := I_23.1 2 8
                have m_27 : g6 2 8 = g 2 8 := F_24 _ _ (by unfold fr_Past_forget; omega)
                refine k_World_addSpout I_23 ⟨by omega, by omega⟩ ⟨by omega, by omega⟩ ⟨by omega, by omega⟩ (fun v8 g9 I_31 F_32 b_28 b_29 b_30 => ?_)
                have F_33 : zk_fr fr_S_spout g g9 := zk_ft F_25 F_32 (fun a i => (fun h => Or.elim h (fun h => (Or.inl h)) (fun h => Or.elim h (fun h => (Or.inr (Or.inl h))) (fun h => Or.elim h (fun h => (Or.inr (Or.inr (Or.inl h)))) (fun h => Or.elim h (fun h => (Or.inr (Or.inr (Or.inr (Or.inl h))))) (fun h => Or.elim h (fun h => (Or.inr (Or.inr (Or.inr (Or.inr (Or.inl h)))))) (fun h => Or.elim h (fun h => (Or.inr (Or.inr (Or.inr (Or.inr (Or.inr (Or.inl h))))))) (fun h => (Or.inr (Or.inr (Or.inr (Or.inr (Or.inr (Or.inr (Or.inl h)))))))))))))))
                have m_34 : 0 ≤ (g9 2 8) ∧ (g9 2 8) ≤ 10 := I_31.1 2 8
                have m_35 : 0 ≤ (g9 91 1) ∧ (g9 91 1) ≤ 6 := I_31.1 91 1
                have m_36 : g9 91 1 = g6 91 1 := F_32 _ _ (by unfold fr_World_addSpout; omega)
                have m_37 : 0 ≤ (g6 91 1) ∧ (g6 91 1) ≤ 6 := I_23.1 91 1
                have z_43 : ∀ k : Int, 0 ≤ k ∧ k < 10 → (¬ (v8 : Int) = -1 ∧ k = g 2 8 → g9 5 k = l3) ∧ (¬ (¬ (v8 : Int) = -1 ∧ k = g 2 8) → g9 5 k = g 5 k) := by
                  intro k hk
                  have m_38 : 0 ≤ (g9 5 k) ∧ (g9 5 k) ≤ 99 := I_31.1 5 k
                  have m_39 := b_30 k hk
                  have m_40 : 0 ≤ (g6 5 k) ∧ (g6 5 k) ≤ 99 := I_23.1 5 k
                  have m_41 : g6 5 k = g 5 k := F_24 _ _ (by unfold fr_Past_forget; omega)
                  have m_42 : 0 ≤ (g 5 k) ∧ (g 5 k) ≤ 99 := I.1 5 k
                  omega
                exact hQ _ _ I_31 F_33 ⟨by omega, by omega⟩ (by omega) (by omega) (by omega) (by intro hv; first | rfl | assumption | (exfalso; omega)) z_43
              · have m_44 : 0 ≤ (g 91 1) ∧ (g 91 1) ≤ 6 := I.1 91 1
                have z_46 : ∀ k : Int, 0 ≤ k ∧ k < 10 → (¬ ((-1) : Int) = -1 ∧ k = g 2 8 → g 5 k = l3) ∧ (¬ (¬ ((-1) : Int) = -1 ∧ k = g 2 8) → g 5 k = g 5 k) := by
                  intro k hk
                  have m_45 : 0 ≤ (g 5 k) ∧ (g 5 k) ≤ 99 := I.1 5 k
                  omega
                exact hQ _ _ I (zk_f0 _) ⟨by omega, by omega⟩ (by omega) (by omega) (by omega) (by intro hv; first | rfl | assumption | (exfalso; omega)) z_46
            · have m_47 : 0 ≤ (g 2 8) ∧ (g 2 8) ≤ 10 := I.1 2 8
              have m_48 : 0 ≤ (g 91 1) ∧ (g 91 1) ≤ 6 := I.1 91 1
              have z_50 : ∀ k : Int, 0 ≤ k ∧ k < 10 → (¬ ((-1) : Int) = -1 ∧ k = g 2 8 → g 5 k = l3) ∧ (¬ (¬ ((-1) : Int) = -1 ∧ k = g 2 8) → g 5 k = g 5 k) := by
                intro k hk
                have m_49 : 0 ≤ (g 5 k) ∧ (g 5 k) ≤ 99 := I.1 5 k
                omega
              exact hQ _ _ I (zk_f0 _) ⟨by omega, by omega⟩ (by omega) (by omega) (by omega) (by intro hv; first | rfl | assumption | (exfalso; omega)) z_50
-- SpoutNewsModel.isIn(III)Z
set_option maxRecDepth 100000 in
set_option maxHeartbeats 4000000 in
theorem k_M_isIn {l1 : Int} {l2 : Int} {l3 : Int} {g : zi_M} {Q : Int → zi_M → Prop} (I : zk_I g) (p1 : (-2147483648) ≤ l1 ∧ l1 ≤ 2147483647) (p2 : (-2147483648) ≤ l2 ∧ l2 ≤ 2147483647) (p3 : (-2147483648) ≤ l3 ∧ l3 ≤ 2147483647) (hQ : ∀ v : Int, (l1 < l2 → v = 0) → (l2 ≤ l1 → l3 < l1 → v = 0) → (l2 ≤ l1 → l1 ≤ l3 → v = 1) → Q v g) : w_M_isIn l1 l2 l3 g Q := by
  unfold w_M_isIn
  refine ⟨⟨by omega, by omega⟩, ⟨by omega, by omega⟩, ?_⟩
  refine ⟨fun c5 => ?_, fun c5 => ?_⟩
  · exact hQ _ (by intros; omega) (by intros; omega) (by intros; omega)
  · refine ⟨⟨by omega, by omega⟩, ?_⟩
    refine ⟨fun c4 => ?_, fun c4 => ?_⟩
    · exact hQ _ (by intros; omega) (by intros; omega) (by intros; omega)
    · exact hQ _ (by intros; omega) (by intros; omega) (by intros; omega)
-- SpoutNewsModel.spout(III)I
set_option maxRecDepth 100000 in
set_option maxHeartbeats 4000000 in
theorem k_M_spout {l1 : Int} {l2 : Int} {l3 : Int} {g : zi_M} {Q : Int → zi_M → Prop} (I : zk_I g) (p1 : (-2147483648) ≤ l1 ∧ l1 ≤ 2147483647) (p2 : (-2147483648) ≤ l2 ∧ l2 ≤ 2147483647) (p3 : (-2147483648) ≤ l3 ∧ l3 ≤ 2147483647) (hQ : ∀ (v : Int) (g' : zi_M), zk_I g' → zk_fr fr_M_spout g g' → ((-1) ≤ v ∧ v ≤ 9) → (0 ≤ l1 ∧ l1 ≤ 5 ∧ 0 ≤ l2 ∧ l2 ≤ 3 ∧ 0 ≤ l3 ∧ l3 ≤ 99 ∧ g 214 6 < 10 → v = g 214 6 ∧ g' 214 6 = g 214 6 + 1) → (¬ (0 ≤ l1 ∧ l1 ≤ 5 ∧ 0 ≤ l2 ∧ l2 ≤ 3 ∧ 0 ≤ l3 ∧ l3 ≤ 99 ∧ g 214 6 < 10) → v = -1 ∧ g' 214 6 = g 214 6) → (∀ k : Int, 0 ≤ k ∧ k < 10 → (¬ v = -1 ∧ k = g 214 6 → g' 220 k = l3) ∧ (¬ (¬ v = -1 ∧ k = g 214 6) → g' 220 k = g 220 k)) → Q v g') : w_M_spout l1 l2 l3 g Q := by
  unfold w_M_spout
  intro g1 e_1
  have I_2 : zk_I g1 := by rw [e_1]; exact zk_upd (L := (-2147483648)) (H := 2147483647) rfl rfl I ⟨by omega, by omega⟩
  have F_3 : zk_fr fr_M_spout g g1 := by rw [e_1]; exact zk_fu (zk_f0 _) (Or.inr (Or.inr (Or.inr (Or.inl ⟨rfl, rfl⟩))))
  refine k_M_isIn I_2 ⟨by omega, by omega⟩ ⟨by omega, by omega⟩ ⟨by omega, by omega⟩ (fun v2 b_4 b_5 b_6 => ?_)
  refine ⟨fun c29 => ?_, fun c29 => ?_⟩
  · have m_7 : 0 ≤ (g1 214 6) ∧ (g1 214 6) ≤ 10 := I_2.1 214 6
    have m_8 : g1 214 6 = g 214 6 := by rw [e_1]; exact zi_u_ni (by decide)
    have m_9 : 0 ≤ (g 214 6) ∧ (g 214 6) ≤ 10 := I.1 214 6
    have z_13 : ∀ k : Int, 0 ≤ k ∧ k < 10 → (¬ ((-1) : Int) = -1 ∧ k = g 214 6 → g1 220 k = l3) ∧ (¬ (¬ ((-1) : Int) = -1 ∧ k = g 214 6) → g1 220 k = g 220 k) := by
      intro k hk
      have m_10 : 0 ≤ (g1 220 k) ∧ (g1 220 k) ≤ 99 := I_2.1 220 k
      have m_11 : g1 220 k = g 220 k := by rw [e_1]; exact zi_u_ne (by decide)
      have m_12 : 0 ≤ (g 220 k) ∧ (g 220 k) ≤ 99 := I.1 220 k
      omega
    exact hQ _ _ I_2 F_3 ⟨by omega, by omega⟩ (by omega) (by omega) z_13
  · refine k_M_isIn I_2 ⟨by omega, by omega⟩ ⟨by omega, by omega⟩ ⟨by omega, by omega⟩ (fun v5 b_14 b_15 b_16 => ?_)
    refine ⟨fun c28 => ?_, fun c28 => ?_⟩
    · have m_17 : 0 ≤ (g1 214 6) ∧ (g1 214 6) ≤ 10 := I_2.1 214 6
      have m_18 : g1 214 6 = g 214 6 := by rw [e_1]; exact zi_u_ni (by decide)
      have m_19 : 0 ≤ (g 214 6) ∧ (g 214 6) ≤ 10 := I.1 214 6
      have z_23 : ∀ k : Int, 0 ≤ k ∧ k < 10 → (¬ ((-1) : Int) = -1 ∧ k = g 214 6 → g1 220 k = l3) ∧ (¬ (¬ ((-1) : Int) = -1 ∧ k = g 214 6) → g1 220 k = g 220 k) := by
        intro k hk
        have m_20 : 0 ≤ (g1 220 k) ∧ (g1 220 k) ≤ 99 := I_2.1 220 k
        have m_21 : g1 220 k = g 220 k := by rw [e_1]; exact zi_u_ne (by decide)
        have m_22 : 0 ≤ (g 220 k) ∧ (g 220 k) ≤ 99 := I.1 220 k
        omega
      exact hQ _ _ I_2 F_3 ⟨by omega, by omega⟩ (by omega) (by omega) z_23
    · refine k_M_isIn I_2 ⟨by omega, by omega⟩ ⟨by omega, by omega⟩ ⟨by omega, by omega⟩ (fun v8 b_24 b_25 b_26 => ?_)
      refine ⟨fun c27 => ?_, fun c27 => ?_⟩
      · have m_27 : 0 ≤ (g1 214 6) ∧ (g1 214 6) ≤ 10 := I_2.1 214 6
        have m_28 : g1 214 6 = g 214 6 := by rw [e_1]; exact zi_u_ni (by decide)
        have m_29 : 0 ≤ (g 214 6) ∧ (g 214 6) ≤ 10 := I.1 214 6
        have z_33 : ∀ k : Int, 0 ≤ k ∧ k < 10 → (¬ ((-1) : Int) = -1 ∧ k = g 214 6 → g1 220 k = l3) ∧ (¬ (¬ ((-1) : Int) = -1 ∧ k = g 214 6) → g1 220 k = g 220 k) := by
          intro k hk
          have m_30 : 0 ≤ (g1 220 k) ∧ (g1 220 k) ≤ 99 := I_2.1 220 k
          have m_31 : g1 220 k = g 220 k := by rw [e_1]; exact zi_u_ne (by decide)
          have m_32 : 0 ≤ (g 220 k) ∧ (g 220 k) ≤ 99 := I.1 220 k
          omega
        exact hQ _ _ I_2 F_3 ⟨by omega, by omega⟩ (by omega) (by omega) z_33
      · have m_34 : 0 ≤ (g1 214 6) ∧ (g1 214 6) ≤ 10 := I_2.1 214 6
        have m_35 : g1 214 6 = g 214 6 := by rw [e_1]; exact zi_u_ni (by decide)
        have m_36 : 0 ≤ (g 214 6) ∧ (g 214 6) ≤ 10 := I.1 214 6
        refine ⟨⟨by omega, by omega⟩, ?_⟩
        refine ⟨fun c26 => ?_, fun c26 => ?_⟩
        · refine ⟨⟨by omega, by omega⟩, ?_⟩
          intro g13 e_37
          have I_38 : zk_I g13 := by rw [e_37]; exact zk_upd (L := 0) (H := 5) rfl rfl I_2 ⟨by omega, by omega⟩
          have F_39 : zk_fr fr_M_spout g g13 := by rw [e_37]; exact zk_fu F_3 (Or.inl rfl)
          have m_43 : 0 ≤ (g13 214 6) ∧ (g13 214 6) ≤ 10 := I_38.1 214 6
          have m_44 : g13 214 6 = g1 214 6 := by rw [e_37]; exact zi_u_ne (by decide)
          refine ⟨⟨by omega, by omega⟩, ?_⟩
          intro g15 e_40
          have I_41 : zk_I g15 := by rw [e_40]; exact zk_upd (L := 0) (H := 3) rfl rfl I_38 ⟨by omega, by omega⟩
          have F_42 : zk_fr fr_M_spout g g15 := by rw [e_40]; exact zk_fu F_39 (Or.inr (Or.inl rfl))
          have m_48 : 0 ≤ (g15 214 6) ∧ (g15 214 6) ≤ 10 := I_41.1 214 6
          have m_49 : g15 214 6 = g13 214 6 := by rw [e_40]; exact zi_u_ne (by decide)
          refine ⟨⟨by omega, by omega⟩, ?_⟩
          intro g17 e_45
          have I_46 : zk_I g17 := by rw [e_45]; exact zk_upd (L := 0) (H := 99) rfl rfl I_41 ⟨by omega, by omega⟩
          have F_47 : zk_fr fr_M_spout g g17 := by rw [e_45]; exact zk_fu F_42 (Or.inr (Or.inr (Or.inl rfl)))
          have m_53 : 0 ≤ (g17 214 6) ∧ (g17 214 6) ≤ 10 := I_46.1 214 6
          have m_54 : g17 214 6 = g15 214 6 := by rw [e_45]; exact zi_u_ne (by decide)
          refine ⟨⟨by omega, by omega⟩, ?_⟩
          intro g19 e_50
          have I_51 : zk_I g19 := by rw [e_50]; exact zk_upd (zk_nl6 (i := 6 + (g17 214 6)) (by omega)).1 (zk_nl6 (i := 6 + (g17 214 6)) (by omega)).2 I_46 ⟨by omega, by omega⟩
          have F_52 : zk_fr fr_M_spout g g19 := by rw [e_50]; exact zk_fu F_47 (Or.inr (Or.inr (Or.inr (Or.inr (Or.inr (Or.inr (Or.inr (Or.inr ⟨rfl, by omega, by omega⟩))))))))
          have m_58 : 0 ≤ (g19 214 6) ∧ (g19 214 6) ≤ 10 := I_51.1 214 6
          have m_59 : g19 214 6 = g17 214 6 := by rw [e_50]; exact zi_u_ne (by decide)
          refine ⟨⟨by omega, by omega⟩, ?_⟩
          intro g21 e_55
          have I_56 : zk_I g21 := by rw [e_55]; exact zk_upd (zk_nl16 (i := 16 + (g19 214 6)) (by omega)).1 (zk_nl16 (i := 16 + (g19 214 6)) (by omega)).2 I_51 ⟨by omega, by omega⟩
          have F_57 : zk_fr fr_M_spout g g21 := by rw [e_55]; exact zk_fu F_52 (Or.inr (Or.inr (Or.inr (Or.inr (Or.inr (Or.inr (Or.inl ⟨rfl, by omega, by omega⟩)))))))
          have m_63 : 0 ≤ (g21 214 6) ∧ (g21 214 6) ≤ 10 := I_56.1 214 6
          have m_64 : g21 214 6 = g19 214 6 := by rw [e_55]; exact zi_u_ne (by decide)
          refine ⟨⟨by omega, by omega⟩, ?_⟩
          intro g23 e_60
          have I_61 : zk_I g23 := by rw [e_60]; exact zk_upd (zk_nl26 (i := 26 + (g21 214 6)) (by omega)).1 (zk_nl26 (i := 26 + (g21 214 6)) (by omega)).2 I_56 ⟨by omega, by omega⟩
          have F_62 : zk_fr fr_M_spout g g23 := by rw [e_60]; exact zk_fu F_57 (Or.inr (Or.inr (Or.inr (Or.inr (Or.inr (Or.inr (Or.inr (Or.inl ⟨rfl, by omega, by omega⟩))))))))
          have m_68 : 0 ≤ (g23 214 6) ∧ (g23 214 6) ≤ 10 := I_61.1 214 6
          have m_69 : g23 214 6 = g21 214 6 := by rw [e_60]; exact zi_u_ne (by decide)
          intro g24 e_65
          have I_66 : zk_I g24 := by rw [e_65]; exact zk_upd (L := 0) (H := 10) rfl rfl I_61 ⟨by omega, by omega⟩
          have F_67 : zk_fr fr_M_spout g g24 := by rw [e_65]; exact zk_fu F_62 (Or.inr (Or.inr (Or.inr (Or.inr (Or.inr (Or.inl ⟨rfl, rfl⟩))))))
          intro g25 e_70
          have I_71 : zk_I g25 := by rw [e_70]; exact zk_upd (L := 0) (H := 6) rfl rfl I_66 ⟨by omega, by omega⟩
          have F_72 : zk_fr fr_M_spout g g25 := by rw [e_70]; exact zk_fu F_67 (Or.inr (Or.inr (Or.inr (Or.inr (Or.inl ⟨rfl, rfl⟩)))))
          have m_73 : 0 ≤ (g25 214 6) ∧ (g25 214 6) ≤ 10 := I_71.1 214 6
          have m_74 : g25 214 6 = g24 214 6 := by rw [e_70]; exact zi_u_ni (by decide)
          have m_75 : 0 ≤ (g24 214 6) ∧ (g24 214 6) ≤ 10 := I_66.1 214 6
          have m_76 : g24 214 6 = (g23 214 6) + 1 := by rw [e_65]; exact zi_u_eq
          have z_96 : ∀ k : Int, 0 ≤ k ∧ k < 10 → (¬ ((g25 214 6) - 1 : Int) = -1 ∧ k = g 214 6 → g25 220 k = l3) ∧ (¬ (¬ ((g25 214 6) - 1 : Int) = -1 ∧ k = g 214 6) → g25 220 k = g 220 k) := by
            intro k hk
            have m_77 : 0 ≤ (g25 220 k) ∧ (g25 220 k) ≤ 99 := I_71.1 220 k
            have m_78 : g25 220 k = g24 220 k := by rw [e_70]; exact zi_u_ne (by decide)
            have m_79 : 0 ≤ (g24 220 k) ∧ (g24 220 k) ≤ 99 := I_66.1 220 k
            have m_80 : g24 220 k = g23 220 k := by rw [e_65]; exact zi_u_ne (by decide)
            have m_81 : 0 ≤ (g23 220 k) ∧ (g23 220 k) ≤ 99 := I_61.1 220 k
            have m_82 : g23 220 k = g21 220 k := by rw [e_60]; exact zi_u_ne (by decide)
            have m_83 : 0 ≤ (g21 220 k) ∧ (g21 220 k) ≤ 99 := I_56.1 220 k
            have m_84 : g21 220 k = g19 220 k := by rw [e_55]; exact zi_u_ne (by decide)
            have m_85 : 0 ≤ (g19 220 k) ∧ (g19 220 k) ≤ 99 := I_51.1 220 k
            have m_86 : g19 220 k = g17 220 k := by rw [e_50]; exact zi_u_ne (by decide)
            have m_87 : 0 ≤ (g17 220 k) ∧ (g17 220 k) ≤ 99 := I_46.1 220 k
            have m_88 : 0 ≤ (g15 220 k) ∧ (g15 220 k) ≤ 99 := I_41.1 220 k
            have m_89 : g15 220 k = g13 220 k := by rw [e_40]; exact zi_u_ne (by decide)
            have m_90 : 0 ≤ (g13 220 k) ∧ (g13 220 k) ≤ 99 := I_38.1 220 k
            have m_91 : g13 220 k = g1 220 k := by rw [e_37]; exact zi_u_ne (by decide)
            have m_92 : 0 ≤ (g1 220 k) ∧ (g1 220 k) ≤ 99 := I_2.1 220 k
            have m_93 : g1 220 k = g 220 k := by rw [e_1]; exact zi_u_ne (by decide)
            have m_94 : 0 ≤ (g 220 k) ∧ (g 220 k) ≤ 99 := I.1 220 k
            have m_95 : (k = g15 214 6 → g17 220 k = l3) ∧ (¬ k = g15 214 6 → g17 220 k = g15 220 k) := by rw [e_45]; exact zi_u_if
            omega
          exact hQ _ _ I_71 F_72 ⟨by omega, by omega⟩ (by omega) (by omega) z_96
        · have z_100 : ∀ k : Int, 0 ≤ k ∧ k < 10 → (¬ ((-1) : Int) = -1 ∧ k = g 214 6 → g1 220 k = l3) ∧ (¬ (¬ ((-1) : Int) = -1 ∧ k = g 214 6) → g1 220 k = g 220 k) := by
            intro k hk
            have m_97 : 0 ≤ (g1 220 k) ∧ (g1 220 k) ≤ 99 := I_2.1 220 k
            have m_98 : g1 220 k = g 220 k := by rw [e_1]; exact zi_u_ne (by decide)
            have m_99 : 0 ≤ (g 220 k) ∧ (g 220 k) ≤ 99 := I.1 220 k
            omega
          exact hQ _ _ I_2 F_3 ⟨by omega, by omega⟩ (by omega) (by omega) z_100
-- SpoutNews.isWordSet(I)Z
set_option maxRecDepth 100000 in
set_option maxHeartbeats 4000000 in
theorem k_S_isWordSet {l0 : Int} {g : zi_M} {Q : Int → zi_M → Prop} (I : zk_I g) (p0 : (-2147483648) ≤ l0 ∧ l0 ≤ 2147483647) (hQ : ∀ v : Int, (l0 < 0 → v = 0) → (0 ≤ l0 → 65536 ≤ l0 → v = 0) → (0 ≤ l0 → l0 < 65536 → v = 1) → Q v g) : w_S_isWordSet l0 g Q := by
  unfold w_S_isWordSet
  refine ⟨⟨by omega, by omega⟩, ?_⟩
  refine ⟨fun c3 => ?_, fun c3 => ?_⟩
  · exact hQ _ (by intros; omega) (by intros; omega) (by intros; omega)
  · refine ⟨fun c2 => ?_, fun c2 => ?_⟩
    · exact hQ _ (by intros; omega) (by intros; omega) (by intros; omega)
    · exact hQ _ (by intros; omega) (by intros; omega) (by intros; omega)
-- SpoutNews$World.addSitter(I)I
set_option maxRecDepth 100000 in
set_option maxHeartbeats 4000000 in
theorem k_World_addSitter {l1 : Int} {g : zi_M} {Q : Int → zi_M → Prop} (I : zk_I g) (p1 : (-2147483648) ≤ l1 ∧ l1 ≤ 2147483647) (hQ : ∀ (v : Int) (g' : zi_M), zk_I g' → zk_fr fr_World_addSitter g g' → ((-1) ≤ v ∧ v ≤ 7) → (g 2 11 < 8 → v = g 2 11 ∧ g' 2 11 = g 2 11 + 1) → Q v g') : w_World_addSitter l1 g Q := by
  unfold w_World_addSitter
  have m_1 : 0 ≤ (g 2 11) ∧ (g 2 11) ≤ 8 := I.1 2 11
  refine ⟨⟨by omega, by omega⟩, ?_⟩
  refine ⟨fun c6 => ?_, fun c6 => ?_⟩
  · refine ⟨⟨by omega, by omega⟩, ?_⟩
    intro g3 e_2
    have I_3 : zk_I g3 := by rw [e_2]; exact zk_upd (L := (-2147483648)) (H := 2147483647) rfl rfl I ⟨by omega, by omega⟩
    have F_4 : zk_fr fr_World_addSitter g g3 := by rw [e_2]; exact zk_fu (zk_f0 _) (Or.inl rfl)
    intro g4 e_5
    have I_6 : zk_I g4 := by rw [e_5]; exact zk_upd (L := (-1)) (H := 9) rfl rfl I_3 ⟨by omega, by omega⟩
    have F_7 : zk_fr fr_World_addSitter g g4 := by rw [e_5]; exact zk_fu F_4 (Or.inr (Or.inl rfl))
    intro g5 e_8
    have I_9 : zk_I g5 := by rw [e_8]; exact zk_upd (L := 0) (H := 8) rfl rfl I_6 ⟨by omega, by omega⟩
    have F_10 : zk_fr fr_World_addSitter g g5 := by rw [e_8]; exact zk_fu F_7 (Or.inr (Or.inr ⟨rfl, rfl⟩))
    have m_11 : 0 ≤ (g5 2 11) ∧ (g5 2 11) ≤ 8 := I_9.1 2 11
    have m_12 : g5 2 11 = (g 2 11) + 1 := by rw [e_8]; exact zi_u_eq
    exact hQ _ _ I_9 F_10 ⟨by omega, by omega⟩ (by omega)
  · exact hQ _ _ I (zk_f0 _) ⟨by omega, by omega⟩ (by omega)
-- SpoutNews.sitter(I)I
set_option maxRecDepth 100000 in
set_option maxHeartbeats 4000000 in
theorem k_S_sitter {l1 : Int} {g : zi_M} {Q : Int → zi_M → Prop} (I : zk_I g) (p1 : (-2147483648) ≤ l1 ∧ l1 ≤ 2147483647) (hQ : ∀ (v : Int) (g' : zi_M), zk_I g' → zk_fr fr_S_sitter g g' → ((-1) ≤ v ∧ v ≤ 7) → (0 ≤ l1 ∧ l1 ≤ 65535 ∧ g 2 11 < 8 → v = g 2 11 ∧ g' 2 11 = g 2 11 + 1) → (¬ (0 ≤ l1 ∧ l1 ≤ 65535 ∧ g 2 11 < 8) → v = -1 ∧ g' 2 11 = g 2 11) → (¬ v = -1 → g' 91 1 = 0) → (v = -1 → g' = g) → Q v g') : w_S_sitter l1 g Q := by
  unfold w_S_sitter
  refine k_S_isWordSet I ⟨by omega, by omega⟩ (fun v1 b_1 b_2 b_3 => ?_)
  refine ⟨fun c12 => ?_, fun c12 => ?_⟩
  · have m_4 : 0 ≤ (g 2 11) ∧ (g 2 11) ≤ 8 := I.1 2 11
    have m_5 : 0 ≤ (g 91 1) ∧ (g 91 1) ≤ 6 := I.1 91 1
    exact hQ _ _ I (zk_f0 _) ⟨by omega, by omega⟩ (by omega) (by omega) (by omega) (by intro hv; first | rfl | assumption | (exfalso; omega))
  · have m_6 : 0 ≤ (g 2 11) ∧ (g 2 11) ≤ 8 := I.1 2 11
    refine ⟨⟨by omega, by omega⟩, ?_⟩
    refine ⟨fun c11 => ?_, fun c11 => ?_⟩
    · refine k_Past_forget I (fun g6 I_8 F_9 b_7 => ?_)
      have F_10 : zk_fr fr_S_sitter g g6 := zk_ft (zk_f0 _) F_9 (fun a i => (fun h => (Or.inr (Or.inr (Or.inr h)))))
      have m_11 : 0 ≤ (g6 2 11) ∧ (g6 2 11) ≤ 8 := I_8.1 2 11
      have m_12 : g6 2 11 = g 2 11 := F_9 _ _ (by unfold fr_Past_forget; omega)
      refine k_World_addSitter I_8 ⟨by omega, by omega⟩ (fun v8 g9 I_15 F_16 b_13 b_14 => ?_)
      have F_17 : zk_fr fr_S_sitter g g9 := zk_ft F_10 F_16 (fun a i => (fun h => Or.elim h (fun h => (Or.inl h)) (fun h => Or.elim h (fun h => (Or.inr (Or.inl h))) (fun h => (Or.inr (Or.inr (Or.inl h)))))))
      have m_18 : 0 ≤ (g9 2 11) ∧ (g9 2 11) ≤ 8 := I_15.1 2 11
      have m_19 : 0 ≤ (g9 91 1) ∧ (g9 91 1) ≤ 6 := I_15.1 91 1
      have m_20 : g9 91 1 = g6 91 1 := F_16 _ _ (by unfold fr_World_addSitter; omega)
      have m_21 : 0 ≤ (g6 91 1) ∧ (g6 91 1) ≤ 6 := I_8.1 91 1
      exact hQ _ _ I_15 F_17 ⟨by omega, by omega⟩ (by omega) (by omega) (by omega) (by intro hv; first | rfl | assumption | (exfalso; omega))
    · have m_22 : 0 ≤ (g 91 1) ∧ (g 91 1) ≤ 6 := I.1 91 1
      exact hQ _ _ I (zk_f0 _) ⟨by omega, by omega⟩ (by omega) (by omega) (by omega) (by intro hv; first | rfl | assumption | (exfalso; omega))
-- SpoutNewsModel.sitter(I)I
set_option maxRecDepth 100000 in
set_option maxHeartbeats 4000000 in
theorem k_M_sitter {l1 : Int} {g : zi_M} {Q : Int → zi_M → Prop} (I : zk_I g) (p1 : (-2147483648) ≤ l1 ∧ l1 ≤ 2147483647) (hQ : ∀ (v : Int) (g' : zi_M), zk_I g' → zk_fr fr_M_sitter g g' → ((-1) ≤ v ∧ v ≤ 7) → (0 ≤ l1 ∧ l1 ≤ 65535 ∧ g 214 7 < 8 → v = g 214 7 ∧ g' 214 7 = g 214 7 + 1) → (¬ (0 ≤ l1 ∧ l1 ≤ 65535 ∧ g 214 7 < 8) → v = -1 ∧ g' 214 7 = g 214 7) → Q v g') : w_M_sitter l1 g Q := by
  unfold w_M_sitter
  intro g1 e_1
  have I_2 : zk_I g1 := by rw [e_1]; exact zk_upd (L := (-2147483648)) (H := 2147483647) rfl rfl I ⟨by omega, by omega⟩
  have F_3 : zk_fr fr_M_sitter g g1 := by rw [e_1]; exact zk_fu (zk_f0 _) (Or.inl ⟨rfl, rfl⟩)
  refine k_M_isIn I_2 ⟨by omega, by omega⟩ ⟨by omega, by omega⟩ ⟨by omega, by omega⟩ (fun v2 b_4 b_5 b_6 => ?_)
  refine ⟨fun c13 => ?_, fun c13 => ?_⟩
  · have m_7 : 0 ≤ (g1 214 7) ∧ (g1 214 7) ≤ 8 := I_2.1 214 7
    have m_8 : g1 214 7 = g 214 7 := by rw [e_1]; exact zi_u_ni (by decide)
    have m_9 : 0 ≤ (g 214 7) ∧ (g 214 7) ≤ 8 := I.1 214 7
    exact hQ _ _ I_2 F_3 ⟨by omega, by omega⟩ (by omega) (by omega)
  · have m_10 : 0 ≤ (g1 214 7) ∧ (g1 214 7) ≤ 8 := I_2.1 214 7
    have m_11 : g1 214 7 = g 214 7 := by rw [e_1]; exact zi_u_ni (by decide)
    have m_12 : 0 ≤ (g 214 7) ∧ (g 214 7) ≤ 8 := I.1 214 7
    refine ⟨⟨by omega, by omega⟩, ?_⟩
    refine ⟨fun c12 => ?_, fun c12 => ?_⟩
    · refine ⟨⟨by omega, by omega⟩, ?_⟩
      intro g7 e_13
      have I_14 : zk_I g7 := by rw [e_13]; exact zk_upd (zk_nl236 (i := 236 + (g1 214 7)) (by omega)).1 (zk_nl236 (i := 236 + (g1 214 7)) (by omega)).2 I_2 ⟨by omega, by omega⟩
      have F_15 : zk_fr fr_M_sitter g g7 := by rw [e_13]; exact zk_fu F_3 (Or.inr (Or.inr (Or.inr (Or.inl ⟨rfl, by omega, by omega⟩))))
      have m_19 : 0 ≤ (g7 214 7) ∧ (g7 214 7) ≤ 8 := I_14.1 214 7
      have m_20 : g7 214 7 = g1 214 7 := by rw [e_13]; exact zi_u_ne (by decide)
      refine ⟨⟨by omega, by omega⟩, ?_⟩
      intro g9 e_16
      have I_17 : zk_I g9 := by rw [e_16]; exact zk_upd (zk_nl244 (i := 244 + (g7 214 7)) (by omega)).1 (zk_nl244 (i := 244 + (g7 214 7)) (by omega)).2 I_14 ⟨by omega, by omega⟩
      have F_18 : zk_fr fr_M_sitter g g9 := by rw [e_16]; exact zk_fu F_15 (Or.inr (Or.inr (Or.inr (Or.inr ⟨rfl, by omega, by omega⟩))))
      have m_24 : 0 ≤ (g9 214 7) ∧ (g9 214 7) ≤ 8 := I_17.1 214 7
      have m_25 : g9 214 7 = g7 214 7 := by rw [e_16]; exact zi_u_ne (by decide)
      intro g10 e_21
      have I_22 : zk_I g10 := by rw [e_21]; exact zk_upd (L := 0) (H := 8) rfl rfl I_17 ⟨by omega, by omega⟩
      have F_23 : zk_fr fr_M_sitter g g10 := by rw [e_21]; exact zk_fu F_18 (Or.inr (Or.inr (Or.inl ⟨rfl, rfl⟩)))
      intro g11 e_26
      have I_27 : zk_I g11 := by rw [e_26]; exact zk_upd (L := 0) (H := 6) rfl rfl I_22 ⟨by omega, by omega⟩
      have F_28 : zk_fr fr_M_sitter g g11 := by rw [e_26]; exact zk_fu F_23 (Or.inr (Or.inl ⟨rfl, rfl⟩))
      have m_29 : 0 ≤ (g11 214 7) ∧ (g11 214 7) ≤ 8 := I_27.1 214 7
      have m_30 : g11 214 7 = g10 214 7 := by rw [e_26]; exact zi_u_ni (by decide)
      have m_31 : 0 ≤ (g10 214 7) ∧ (g10 214 7) ≤ 8 := I_22.1 214 7
      have m_32 : g10 214 7 = (g9 214 7) + 1 := by rw [e_21]; exact zi_u_eq
      exact hQ _ _ I_27 F_28 ⟨by omega, by omega⟩ (by omega) (by omega)
    · exact hQ _ _ I_2 F_3 ⟨by omega, by omega⟩ (by omega) (by omega)
-- SpoutNews$World.isSpout(I)Z
set_option maxRecDepth 100000 in
set_option maxHeartbeats 4000000 in
theorem k_World_isSpout {r0 : Nat} (hr0 : zs_sh r0 = some (10, 20)) {l1 : Int} {g : zi_M} {Q : Int → zi_M → Prop} (I : zk_I g) (p1 : (-2147483648) ≤ l1 ∧ l1 ≤ 2147483647) (hQ : ∀ v : Int, (l1 < 0 → v = 0) → (0 ≤ l1 → (g r0 8) ≤ l1 → v = 0) → (0 ≤ l1 → l1 < (g r0 8) → v = 1) → Q v g) : w_World_isSpout r0 l1 g Q := by
  unfold w_World_isSpout
  refine ⟨⟨by omega, by omega⟩, ?_⟩
  refine ⟨fun c4 => ?_, fun c4 => ?_⟩
  · have m_1 := zk_c10_8 hr0 I
    exact hQ _ (by intros; omega) (by intros; omega) (by intros; omega)
  · have m_2 := zk_c10_8 hr0 I
    refine ⟨⟨by omega, by omega⟩, ?_⟩
    refine ⟨fun c3 => ?_, fun c3 => ?_⟩
    · exact hQ _ (by intros; omega) (by intros; omega) (by intros; omega)
    · exact hQ _ (by intros; omega) (by intros; omega) (by intros; omega)
-- SpoutNews$World.isSitter(I)Z
set_option maxRecDepth 100000 in
set_option maxHeartbeats 4000000 in
theorem k_World_isSitter {l1 : Int} {g : zi_M} {Q : Int → zi_M → Prop} (I : zk_I g) (p1 : (-2147483648) ≤ l1 ∧ l1 ≤ 2147483647) (hQ : ∀ v : Int, (l1 < 0 → v = 0) → (0 ≤ l1 → (g 2 11) ≤ l1 → v = 0) → (0 ≤ l1 → l1 < (g 2 11) → v = 1) → Q v g) : w_World_isSitter l1 g Q := by
  unfold w_World_isSitter
  refine ⟨⟨by omega, by omega⟩, ?_⟩
  refine ⟨fun c4 => ?_, fun c4 => ?_⟩
  · have m_1 : 0 ≤ (g 2 11) ∧ (g 2 11) ≤ 8 := I.1 2 11
    exact hQ _ (by intros; omega) (by intros; omega) (by intros; omega)
  · have m_2 : 0 ≤ (g 2 11) ∧ (g 2 11) ≤ 8 := I.1 2 11
    refine ⟨⟨by omega, by omega⟩, ?_⟩
    refine ⟨fun c3 => ?_, fun c3 => ?_⟩
    · exact hQ _ (by intros; omega) (by intros; omega) (by intros; omega)
    · exact hQ _ (by intros; omega) (by intros; omega) (by intros; omega)
-- SpoutNews.set(III)Z
set_option maxRecDepth 100000 in
set_option maxHeartbeats 4000000 in
theorem k_S_set_b163 {l1 : Int} {l2 : Int} {l3 : Int} {l5 : Int} {Q : Int → zi_M → Prop} {g : zi_M} {g0 : zi_M} (I : zk_I g) (F : zk_fr fr_S_set g0 g) (p1 : (-2147483648) ≤ l1 ∧ l1 ≤ 2147483647) (p2 : (-2147483648) ≤ l2 ∧ l2 ≤ 2147483647) (p3 : (-2147483648) ≤ l3 ∧ l3 ≤ 2147483647) (p5 : 0 ≤ l5 ∧ l5 ≤ 1) (ix0 : ¬ l5 = 0 ∧ (l1 = 0) → 0 ≤ l3 ∧ l3 ≤ 9) (ix1 : ¬ l5 = 0 ∧ (l1 = 1) → 0 ≤ l2 ∧ l2 ≤ 9 ∧ 0 ≤ l3 ∧ l3 ≤ 99) (ix2 : ¬ l5 = 0 ∧ (l1 = 2) → 0 ≤ l2 ∧ l2 ≤ 9 ∧ 0 ≤ l3 ∧ l3 ≤ 999) (ix3 : ¬ l5 = 0 ∧ (l1 < 0 ∨ 2 < l1) → 0 ≤ l2 ∧ l2 ≤ 7 ∧ 0 ≤ l3 ∧ l3 ≤ 65535) (ix4 : ¬ l5 = 0 → zPs (g0 2 8) (g0 2 11) l1 l2 l3) (ix5 : l5 = 0 → ¬ zPs (g0 2 8) (g0 2 11) l1 l2 l3) (ix6 : g = g0) (ix7 : g 2 8 = g0 2 8) (ix8 : g 2 11 = g0 2 11) (ix9 : ∀ k : Int, g 5 k = g0 5 k) (hQ : ∀ (v : Int) (g' : zi_M), zk_I g' → zk_fr fr_S_set g0 g' → (0 ≤ v ∧ v ≤ 1) → (zPs (g0 2 8) (g0 2 11) l1 l2 l3 → v = 1) → (¬ zPs (g0 2 8) (g0 2 11) l1 l2 l3 → v = 0) → (¬ v = 0 → g' 91 1 = 0) → (v = 0 → g' = g0) → (∀ k : Int, 0 ≤ k ∧ k < 10 → (¬ v = 0 ∧ l1 = 1 ∧ k = l2 → g' 5 k = l3) ∧ (¬ (¬ v = 0 ∧ l1 = 1 ∧ k = l2) → g' 5 k = g0 5 k)) → Q v g') : w_S_set_b163 l1 l2 l3 l5 g Q := by
  unfold w_S_set_b163
  refine ⟨⟨by omega, by omega⟩, ?_⟩
  refine ⟨fun c17 => ?_, fun c17 => ?_⟩
  · refine k_Past_forget I (fun g6 I_2 F_3 b_1 => ?_)
    have F_4 : zk_fr fr_S_set g0 g6 := zk_ft F F_3 (fun a i => (fun h => (Or.inr (Or.inr (Or.inr (Or.inr h))))))
    refine ⟨⟨by omega, by omega⟩, ?_⟩
    refine ⟨fun c9 => ?_, fun c9 => ?_, fun c9 => ?_, fun c9 => ?_⟩
    · refine ⟨⟨by omega, by omega⟩, ?_⟩
      intro g11 e_5
      have I_6 : zk_I g11 := by rw [e_5]; exact zk_upd (L := (-2147483648)) (H := 2147483647) rfl rfl I_2 ⟨by omega, by omega⟩
      have F_7 : zk_fr fr_S_set g0 g11 := by rw [e_5]; exact zk_fu F_4 (Or.inl rfl)
      have m_8 : 0 ≤ (g11 91 1) ∧ (g11 91 1) ≤ 6 := I_6.1 91 1
      have m_9 : g11 91 1 = g6 91 1 := by rw [e_5]; exact zi_u_ne (by decide)
      have m_10 : 0 ≤ (g6 91 1) ∧ (g6 91 1) ≤ 6 := I_2.1 91 1
      have z_17 : ∀ k : Int, 0 ≤ k ∧ k < 10 → (¬ (1 : Int) = 0 ∧ l1 = 1 ∧ k = l2 → g11 5 k = l3) ∧ (¬ (¬ (1 : Int) = 0 ∧ l1 = 1 ∧ k = l2) → g11 5 k = g0 5 k) := by
        intro k hk
        have m_11 : 0 ≤ (g11 5 k) ∧ (g11 5 k) ≤ 99 := I_6.1 5 k
        have m_12 : g11 5 k = g6 5 k := by rw [e_5]; exact zi_u_ne (by decide)
        have m_13 : 0 ≤ (g6 5 k) ∧ (g6 5 k) ≤ 99 := I_2.1 5 k
        have m_14 : g6 5 k = g 5 k := F_3 _ _ (by unfold fr_Past_forget; omega)
        have m_15 : 0 ≤ (g 5 k) ∧ (g 5 k) ≤ 99 := I.1 5 k
        have m_16 := ix9 k
        omega
      exact hQ _ _ I_6 F_7 ⟨by omega, by omega⟩ (by intro hv; first | rfl | exact zPs_n (by assumption) (by omega) hv | exact zPs_y (by assumption) (by omega) hv) (by intro hv; first | rfl | exact zPs_n (by assumption) (by omega) hv | exact zPs_y (by assumption) (by omega) hv) (by omega) (by intro hv; first | rfl | assumption | (exfalso; omega)) z_17
    · intro g12 e_18
      have I_19 : zk_I g12 := by rw [e_18]; exact zk_upd (L := 0) (H := 9) rfl rfl I_2 ⟨by omega, by omega⟩
      have F_20 : zk_fr fr_S_set g0 g12 := by rw [e_18]; exact zk_fu F_4 (Or.inr (Or.inr (Or.inr (Or.inl ⟨rfl, rfl⟩))))
      have m_21 : 0 ≤ (g12 91 1) ∧ (g12 91 1) ≤ 6 := I_19.1 91 1
      have m_22 : g12 91 1 = g6 91 1 := by rw [e_18]; exact zi_u_ne (by decide)
      have m_23 : 0 ≤ (g6 91 1) ∧ (g6 91 1) ≤ 6 := I_2.1 91 1
      have z_30 : ∀ k : Int, 0 ≤ k ∧ k < 10 → (¬ (1 : Int) = 0 ∧ l1 = 1 ∧ k = l2 → g12 5 k = l3) ∧ (¬ (¬ (1 : Int) = 0 ∧ l1 = 1 ∧ k = l2) → g12 5 k = g0 5 k) := by
        intro k hk
        have m_24 : 0 ≤ (g12 5 k) ∧ (g12 5 k) ≤ 99 := I_19.1 5 k
        have m_25 : g12 5 k = g6 5 k := by rw [e_18]; exact zi_u_ne (by decide)
        have m_26 : 0 ≤ (g6 5 k) ∧ (g6 5 k) ≤ 99 := I_2.1 5 k
        have m_27 : g6 5 k = g 5 k := F_3 _ _ (by unfold fr_Past_forget; omega)
        have m_28 : 0 ≤ (g 5 k) ∧ (g 5 k) ≤ 99 := I.1 5 k
        have m_29 := ix9 k
        omega
      exact hQ _ _ I_19 F_20 ⟨by omega, by omega⟩ (by intro hv; first | rfl | exact zPs_n (by assumption) (by omega) hv | exact zPs_y (by assumption) (by omega) hv) (by intro hv; first | rfl | exact zPs_n (by assumption) (by omega) hv | exact zPs_y (by assumption) (by omega) hv) (by omega) (by intro hv; first | rfl | assumption | (exfalso; omega)) z_30
    · refine ⟨⟨by omega, by omega⟩, ?_⟩
      intro g14 e_31
      have I_32 : zk_I g14 := by rw [e_31]; exact zk_upd (L := 0) (H := 99) rfl rfl I_2 ⟨by omega, by omega⟩
      have F_33 : zk_fr fr_S_set g0 g14 := by rw [e_31]; exact zk_fu F_4 (Or.inr (Or.inl rfl))
      have m_34 : 0 ≤ (g14 91 1) ∧ (g14 91 1) ≤ 6 := I_32.1 91 1
      have m_35 : g14 91 1 = g6 91 1 := by rw [e_31]; exact zi_u_ne (by decide)
      have m_36 : 0 ≤ (g6 91 1) ∧ (g6 91 1) ≤ 6 := I_2.1 91 1
      have z_43 : ∀ k : Int, 0 ≤ k ∧ k < 10 → (¬ (1 : Int) = 0 ∧ l1 = 1 ∧ k = l2 → g14 5 k = l3) ∧ (¬ (¬ (1 : Int) = 0 ∧ l1 = 1 ∧ k = l2) → g14 5 k = g0 5 k) := by
        intro k hk
        have m_37 : 0 ≤ (g14 5 k) ∧ (g14 5 k) ≤ 99 := I_32.1 5 k
        have m_38 : 0 ≤ (g6 5 k) ∧ (g6 5 k) ≤ 99 := I_2.1 5 k
        have m_39 : g6 5 k = g 5 k := F_3 _ _ (by unfold fr_Past_forget; omega)
        have m_40 : 0 ≤ (g 5 k) ∧ (g 5 k) ≤ 99 := I.1 5 k
        have m_41 : (k = l2 → g14 5 k = l3) ∧ (¬ k = l2 → g14 5 k = g6 5 k) := by rw [e_31]; exact zi_u_if
        have m_42 := ix9 k
        omega
      exact hQ _ _ I_32 F_33 ⟨by omega, by omega⟩ (by intro hv; first | rfl | exact zPs_n (by assumption) (by omega) hv | exact zPs_y (by assumption) (by omega) hv) (by intro hv; first | rfl | exact zPs_n (by assumption) (by omega) hv | exact zPs_y (by assumption) (by omega) hv) (by omega) (by intro hv; first | rfl | assumption | (exfalso; omega)) z_43
    · refine ⟨⟨by omega, by omega⟩, ?_⟩
      intro g16 e_44
      have I_45 : zk_I g16 := by rw [e_44]; exact zk_upd (L := 0) (H := 999) rfl rfl I_2 ⟨by omega, by omega⟩
      have F_46 : zk_fr fr_S_set g0 g16 := by rw [e_44]; exact zk_fu F_4 (Or.inr (Or.inr (Or.inl rfl)))
      have m_47 : 0 ≤ (g16 91 1) ∧ (g16 91 1) ≤ 6 := I_45.1 91 1
      have m_48 : g16 91 1 = g6 91 1 := by rw [e_44]; exact zi_u_ne (by decide)
      have m_49 : 0 ≤ (g6 91 1) ∧ (g6 91 1) ≤ 6 := I_2.1 91 1
      have z_56 : ∀ k : Int, 0 ≤ k ∧ k < 10 → (¬ (1 : Int) = 0 ∧ l1 = 1 ∧ k = l2 → g16 5 k = l3) ∧ (¬ (¬ (1 : Int) = 0 ∧ l1 = 1 ∧ k = l2) → g16 5 k = g0 5 k) := by
        intro k hk
        have m_50 : 0 ≤ (g16 5 k) ∧ (g16 5 k) ≤ 99 := I_45.1 5 k
        have m_51 : g16 5 k = g6 5 k := by rw [e_44]; exact zi_u_ne (by decide)
        have m_52 : 0 ≤ (g6 5 k) ∧ (g6 5 k) ≤ 99 := I_2.1 5 k
        have m_53 : g6 5 k = g 5 k := F_3 _ _ (by unfold fr_Past_forget; omega)
        have m_54 : 0 ≤ (g 5 k) ∧ (g 5 k) ≤ 99 := I.1 5 k
        have m_55 := ix9 k
        omega
      exact hQ _ _ I_45 F_46 ⟨by omega, by omega⟩ (by intro hv; first | rfl | exact zPs_n (by assumption) (by omega) hv | exact zPs_y (by assumption) (by omega) hv) (by intro hv; first | rfl | exact zPs_n (by assumption) (by omega) hv | exact zPs_y (by assumption) (by omega) hv) (by omega) (by intro hv; first | rfl | assumption | (exfalso; omega)) z_56
  · have m_57 : 0 ≤ (g 91 1) ∧ (g 91 1) ≤ 6 := I.1 91 1
    have z_60 : ∀ k : Int, 0 ≤ k ∧ k < 10 → (¬ (0 : Int) = 0 ∧ l1 = 1 ∧ k = l2 → g 5 k = l3) ∧ (¬ (¬ (0 : Int) = 0 ∧ l1 = 1 ∧ k = l2) → g 5 k = g0 5 k) := by
      intro k hk
      have m_58 : 0 ≤ (g 5 k) ∧ (g 5 k) ≤ 99 := I.1 5 k
      have m_59 := ix9 k
      omega
    exact hQ _ _ I F ⟨by omega, by omega⟩ (by intro hv; first | rfl | exact zPs_n (by assumption) (by omega) hv | exact zPs_y (by assumption) (by omega) hv) (by intro hv; first | rfl | exact zPs_n (by assumption) (by omega) hv | exact zPs_y (by assumption) (by omega) hv) (by omega) (by intro hv; first | rfl | assumption | (exfalso; omega)) z_60
set_option maxRecDepth 100000 in
set_option maxHeartbeats 4000000 in
theorem k_S_set_b18 {l1 : Int} {l2 : Int} {l3 : Int} {s0 : Int} {Q : Int → zi_M → Prop} {g : zi_M} {g0 : zi_M} (I : zk_I g) (F : zk_fr fr_S_set g0 g) (p1 : (-2147483648) ≤ l1 ∧ l1 ≤ 2147483647) (p2 : (-2147483648) ≤ l2 ∧ l2 ≤ 2147483647) (p3 : (-2147483648) ≤ l3 ∧ l3 ≤ 2147483647) (ix0 : ¬ s0 = 0 → 0 ≤ l3) (ix1 : s0 = 0 → l3 < 0) (ix2 : g = g0) (ix3 : g 2 8 = g0 2 8) (ix4 : g 2 11 = g0 2 11) (ix5 : ∀ k : Int, g 5 k = g0 5 k) (ps0 : 0 ≤ s0 ∧ s0 ≤ 1) (hQ : ∀ (v : Int) (g' : zi_M), zk_I g' → zk_fr fr_S_set g0 g' → (0 ≤ v ∧ v ≤ 1) → (zPs (g0 2 8) (g0 2 11) l1 l2 l3 → v = 1) → (¬ zPs (g0 2 8) (g0 2 11) l1 l2 l3 → v = 0) → (¬ v = 0 → g' 91 1 = 0) → (v = 0 → g' = g0) → (∀ k : Int, 0 ≤ k ∧ k < 10 → (¬ v = 0 ∧ l1 = 1 ∧ k = l2 → g' 5 k = l3) ∧ (¬ (¬ v = 0 ∧ l1 = 1 ∧ k = l2) → g' 5 k = g0 5 k)) → Q v g') : w_S_set_b18 l1 l2 l3 s0 g Q := by
  unfold w_S_set_b18
  refine ⟨⟨by omega, by omega⟩, ?_⟩
  refine ⟨fun c3 => ?_, fun c3 => ?_, fun c3 => ?_, fun c3 => ?_, fun c3 => ?_⟩
  · have m_61 : 0 ≤ (g 2 8) ∧ (g 2 8) ≤ 10 := I.1 2 8
    have m_62 : 0 ≤ (g 2 11) ∧ (g 2 11) ≤ 8 := I.1 2 11
    exact k_S_set_b163 I F ⟨by omega, by omega⟩ ⟨by omega, by omega⟩ ⟨by omega, by omega⟩ ⟨by omega, by omega⟩ (by omega) (by omega) (by omega) (by omega) (by intro hv; unfold zPs; omega) (by intro hv; unfold zPs; omega) (by first | rfl | assumption) (by omega) (by omega) (by first | assumption | (intro k; rfl)) hQ
  · refine ⟨⟨by omega, by omega⟩, ?_⟩
    refine ⟨fun c21 => ?_, fun c21 => ?_⟩
    · have m_63 : 0 ≤ (g 2 8) ∧ (g 2 8) ≤ 10 := I.1 2 8
      have m_64 : 0 ≤ (g 2 11) ∧ (g 2 11) ≤ 8 := I.1 2 11
      exact k_S_set_b163 I F ⟨by omega, by omega⟩ ⟨by omega, by omega⟩ ⟨by omega, by omega⟩ ⟨by omega, by omega⟩ (by omega) (by omega) (by omega) (by omega) (by intro hv; unfold zPs; omega) (by intro hv; unfold zPs; omega) (by first | rfl | assumption) (by omega) (by omega) (by first | assumption | (intro k; rfl)) hQ
    · refine ⟨⟨by omega, by omega⟩, ?_⟩
      refine ⟨fun c20 => ?_, fun c20 => ?_⟩
      · have m_65 : 0 ≤ (g 2 8) ∧ (g 2 8) ≤ 10 := I.1 2 8
        have m_66 : 0 ≤ (g 2 11) ∧ (g 2 11) ≤ 8 := I.1 2 11
        exact k_S_set_b163 I F ⟨by omega, by omega⟩ ⟨by omega, by omega⟩ ⟨by omega, by omega⟩ ⟨by omega, by omega⟩ (by omega) (by omega) (by omega) (by omega) (by intro hv; unfold zPs; omega) (by intro hv; unfold zPs; omega) (by first | rfl | assumption) (by omega) (by omega) (by first | assumption | (intro k; rfl)) hQ
      · have m_67 : 0 ≤ (g 2 8) ∧ (g 2 8) ≤ 10 := I.1 2 8
        have m_68 : 0 ≤ (g 2 11) ∧ (g 2 11) ≤ 8 := I.1 2 11
        exact k_S_set_b163 I F ⟨by omega, by omega⟩ ⟨by omega, by omega⟩ ⟨by omega, by omega⟩ ⟨by omega, by omega⟩ (by omega) (by omega) (by omega) (by omega) (by intro hv; unfold zPs; omega) (by intro hv; unfold zPs; omega) (by first | rfl | assumption) (by omega) (by omega) (by first | assumption | (intro k; rfl)) hQ
  · refine ⟨⟨by omega, by omega⟩, ?_⟩
    refine ⟨fun c29 => ?_, fun c29 => ?_⟩
    · have m_69 : 0 ≤ (g 2 8) ∧ (g 2 8) ≤ 10 := I.1 2 8
      have m_70 : 0 ≤ (g 2 11) ∧ (g 2 11) ≤ 8 := I.1 2 11
      exact k_S_set_b163 I F ⟨by omega, by omega⟩ ⟨by omega, by omega⟩ ⟨by omega, by omega⟩ ⟨by omega, by omega⟩ (by omega) (by omega) (by omega) (by omega) (by intro hv; unfold zPs; omega) (by intro hv; unfold zPs; omega) (by first | rfl | assumption) (by omega) (by omega) (by first | assumption | (intro k; rfl)) hQ
    · have m_74 : 0 ≤ (g 2 8) ∧ (g 2 8) ≤ 10 := I.1 2 8
      refine k_World_isSpout rfl I ⟨by omega, by omega⟩ (fun v23 b_71 b_72 b_73 => ?_)
      try simp only [Nat.reduceAdd] at b_71 b_72 b_73
      refine ⟨fun c28 => ?_, fun c28 => ?_⟩
      · have m_75 : 0 ≤ (g 2 11) ∧ (g 2 11) ≤ 8 := I.1 2 11
        exact k_S_set_b163 I F ⟨by omega, by omega⟩ ⟨by omega, by omega⟩ ⟨by omega, by omega⟩ ⟨by omega, by omega⟩ (by omega) (by omega) (by omega) (by omega) (by intro hv; unfold zPs; omega) (by intro hv; unfold zPs; omega) (by first | rfl | assumption) (by omega) (by omega) (by first | assumption | (intro k; rfl)) hQ
      · refine ⟨⟨by omega, by omega⟩, ?_⟩
        refine ⟨fun c27 => ?_, fun c27 => ?_⟩
        · have m_76 : 0 ≤ (g 2 11) ∧ (g 2 11) ≤ 8 := I.1 2 11
          exact k_S_set_b163 I F ⟨by omega, by omega⟩ ⟨by omega, by omega⟩ ⟨by omega, by omega⟩ ⟨by omega, by omega⟩ (by omega) (by omega) (by omega) (by omega) (by intro hv; unfold zPs; omega) (by intro hv; unfold zPs; omega) (by first | rfl | assumption) (by omega) (by omega) (by first | assumption | (intro k; rfl)) hQ
        · have m_77 : 0 ≤ (g 2 11) ∧ (g 2 11) ≤ 8 := I.1 2 11
          exact k_S_set_b163 I F ⟨by omega, by omega⟩ ⟨by omega, by omega⟩ ⟨by omega, by omega⟩ ⟨by omega, by omega⟩ (by omega) (by omega) (by omega) (by omega) (by intro hv; unfold zPs; omega) (by intro hv; unfold zPs; omega) (by first | rfl | assumption) (by omega) (by omega) (by first | assumption | (intro k; rfl)) hQ
  · refine ⟨⟨by omega, by omega⟩, ?_⟩
    refine ⟨fun c37 => ?_, fun c37 => ?_⟩
    · have m_78 : 0 ≤ (g 2 8) ∧ (g 2 8) ≤ 10 := I.1 2 8
      have m_79 : 0 ≤ (g 2 11) ∧ (g 2 11) ≤ 8 := I.1 2 11
      exact k_S_set_b163 I F ⟨by omega, by omega⟩ ⟨by omega, by omega⟩ ⟨by omega, by omega⟩ ⟨by omega, by omega⟩ (by omega) (by omega) (by omega) (by omega) (by intro hv; unfold zPs; omega) (by intro hv; unfold zPs; omega) (by first | rfl | assumption) (by omega) (by omega) (by first | assumption | (intro k; rfl)) hQ
    · have m_83 : 0 ≤ (g 2 8) ∧ (g 2 8) ≤ 10 := I.1 2 8
      refine k_World_isSpout rfl I ⟨by omega, by omega⟩ (fun v31 b_80 b_81 b_82 => ?_)
      try simp only [Nat.reduceAdd] at b_80 b_81 b_82
      refine ⟨fun c36 => ?_, fun c36 => ?_⟩
      · have m_84 : 0 ≤ (g 2 11) ∧ (g 2 11) ≤ 8 := I.1 2 11
        exact k_S_set_b163 I F ⟨by omega, by omega⟩ ⟨by omega, by omega⟩ ⟨by omega, by omega⟩ ⟨by omega, by omega⟩ (by omega) (by omega) (by omega) (by omega) (by intro hv; unfold zPs; omega) (by intro hv; unfold zPs; omega) (by first | rfl | assumption) (by omega) (by omega) (by first | assumption | (intro k; rfl)) hQ
      · refine ⟨⟨by omega, by omega⟩, ?_⟩
        refine ⟨fun c35 => ?_, fun c35 => ?_⟩
        · have m_85 : 0 ≤ (g 2 11) ∧ (g 2 11) ≤ 8 := I.1 2 11
          exact k_S_set_b163 I F ⟨by omega, by omega⟩ ⟨by omega, by omega⟩ ⟨by omega, by omega⟩ ⟨by omega, by omega⟩ (by omega) (by omega) (by omega) (by omega) (by intro hv; unfold zPs; omega) (by intro hv; unfold zPs; omega) (by first | rfl | assumption) (by omega) (by omega) (by first | assumption | (intro k; rfl)) hQ
        · have m_86 : 0 ≤ (g 2 11) ∧ (g 2 11) ≤ 8 := I.1 2 11
          exact k_S_set_b163 I F ⟨by omega, by omega⟩ ⟨by omega, by omega⟩ ⟨by omega, by omega⟩ ⟨by omega, by omega⟩ (by omega) (by omega) (by omega) (by omega) (by intro hv; unfold zPs; omega) (by intro hv; unfold zPs; omega) (by first | rfl | assumption) (by omega) (by omega) (by first | assumption | (intro k; rfl)) hQ
  · have m_90 : 0 ≤ (g 2 11) ∧ (g 2 11) ≤ 8 := I.1 2 11
    refine k_World_isSitter I ⟨by omega, by omega⟩ (fun v38 b_87 b_88 b_89 => ?_)
    refine ⟨fun c45 => ?_, fun c45 => ?_⟩
    · have m_91 : 0 ≤ (g 2 8) ∧ (g 2 8) ≤ 10 := I.1 2 8
      exact k_S_set_b163 I F ⟨by omega, by omega⟩ ⟨by omega, by omega⟩ ⟨by omega, by omega⟩ ⟨by omega, by omega⟩ (by omega) (by omega) (by omega) (by omega) (by intro hv; unfold zPs; omega) (by intro hv; unfold zPs; omega) (by first | rfl | assumption) (by omega) (by omega) (by first | assumption | (intro k; rfl)) hQ
    · refine k_S_isWordSet I ⟨by omega, by omega⟩ (fun v41 b_92 b_93 b_94 => ?_)
      refine ⟨fun c44 => ?_, fun c44 => ?_⟩
      · have m_95 : 0 ≤ (g 2 8) ∧ (g 2 8) ≤ 10 := I.1 2 8
        exact k_S_set_b163 I F ⟨by omega, by omega⟩ ⟨by omega, by omega⟩ ⟨by omega, by omega⟩ ⟨by omega, by omega⟩ (by omega) (by omega) (by omega) (by omega) (by intro hv; unfold zPs; omega) (by intro hv; unfold zPs; omega) (by first | rfl | assumption) (by omega) (by omega) (by first | assumption | (intro k; rfl)) hQ
      · have m_96 : 0 ≤ (g 2 8) ∧ (g 2 8) ≤ 10 := I.1 2 8
        exact k_S_set_b163 I F ⟨by omega, by omega⟩ ⟨by omega, by omega⟩ ⟨by omega, by omega⟩ ⟨by omega, by omega⟩ (by omega) (by omega) (by omega) (by omega) (by intro hv; unfold zPs; omega) (by intro hv; unfold zPs; omega) (by first | rfl | assumption) (by omega) (by omega) (by first | assumption | (intro k; rfl)) hQ
set_option maxRecDepth 100000 in
set_option maxHeartbeats 4000000 in
theorem k_S_set {l1 : Int} {l2 : Int} {l3 : Int} {g : zi_M} {Q : Int → zi_M → Prop} (I : zk_I g) (p1 : (-2147483648) ≤ l1 ∧ l1 ≤ 2147483647) (p2 : (-2147483648) ≤ l2 ∧ l2 ≤ 2147483647) (p3 : (-2147483648) ≤ l3 ∧ l3 ≤ 2147483647) (hQ : ∀ (v : Int) (g' : zi_M), zk_I g' → zk_fr fr_S_set g g' → (0 ≤ v ∧ v ≤ 1) → (zPs (g 2 8) (g 2 11) l1 l2 l3 → v = 1) → (¬ zPs (g 2 8) (g 2 11) l1 l2 l3 → v = 0) → (¬ v = 0 → g' 91 1 = 0) → (v = 0 → g' = g) → (∀ k : Int, 0 ≤ k ∧ k < 10 → (¬ v = 0 ∧ l1 = 1 ∧ k = l2 → g' 5 k = l3) ∧ (¬ (¬ v = 0 ∧ l1 = 1 ∧ k = l2) → g' 5 k = g 5 k)) → Q v g') : w_S_set l1 l2 l3 g Q := by
  unfold w_S_set
  refine ⟨⟨by omega, by omega⟩, ?_⟩
  refine ⟨fun c46 => ?_, fun c46 => ?_⟩
  · have m_97 : 0 ≤ (g 2 8) ∧ (g 2 8) ≤ 10 := I.1 2 8
    have m_98 : 0 ≤ (g 2 11) ∧ (g 2 11) ≤ 8 := I.1 2 11
    exact k_S_set_b18 I (zk_f0 _) ⟨by omega, by omega⟩ ⟨by omega, by omega⟩ ⟨by omega, by omega⟩ (by omega) (by omega) (by rfl) (by omega) (by omega) (by first | assumption | (intro k; rfl)) ⟨by omega, by omega⟩ hQ
  · have m_99 : 0 ≤ (g 2 8) ∧ (g 2 8) ≤ 10 := I.1 2 8
    have m_100 : 0 ≤ (g 2 11) ∧ (g 2 11) ≤ 8 := I.1 2 11
    exact k_S_set_b18 I (zk_f0 _) ⟨by omega, by omega⟩ ⟨by omega, by omega⟩ ⟨by omega, by omega⟩ (by omega) (by omega) (by rfl) (by omega) (by omega) (by first | assumption | (intro k; rfl)) ⟨by omega, by omega⟩ hQ
-- SpoutNewsModel.isSpout(I)Z
set_option maxRecDepth 100000 in
set_option maxHeartbeats 4000000 in
theorem k_M_isSpout {l1 : Int} {g : zi_M} {Q : Int → zi_M → Prop} (I : zk_I g) (p1 : (-2147483648) ≤ l1 ∧ l1 ≤ 2147483647) (hQ : ∀ v : Int, (l1 < 0 → v = 0) → (0 ≤ l1 → (g 214 6) ≤ l1 → v = 0) → (0 ≤ l1 → l1 < (g 214 6) → v = 1) → Q v g) : w_M_isSpout l1 g Q := by
  unfold w_M_isSpout
  refine ⟨⟨by omega, by omega⟩, ?_⟩
  refine ⟨fun c4 => ?_, fun c4 => ?_⟩
  · have m_1 : 0 ≤ (g 214 6) ∧ (g 214 6) ≤ 10 := I.1 214 6
    exact hQ _ (by intros; omega) (by intros; omega) (by intros; omega)
  · have m_2 : 0 ≤ (g 214 6) ∧ (g 214 6) ≤ 10 := I.1 214 6
    refine ⟨⟨by omega, by omega⟩, ?_⟩
    refine ⟨fun c3 => ?_, fun c3 => ?_⟩
    · exact hQ _ (by intros; omega) (by intros; omega) (by intros; omega)
    · exact hQ _ (by intros; omega) (by intros; omega) (by intros; omega)
-- SpoutNewsModel.isSitter(I)Z
set_option maxRecDepth 100000 in
set_option maxHeartbeats 4000000 in
theorem k_M_isSitter {l1 : Int} {g : zi_M} {Q : Int → zi_M → Prop} (I : zk_I g) (p1 : (-2147483648) ≤ l1 ∧ l1 ≤ 2147483647) (hQ : ∀ v : Int, (l1 < 0 → v = 0) → (0 ≤ l1 → (g 214 7) ≤ l1 → v = 0) → (0 ≤ l1 → l1 < (g 214 7) → v = 1) → Q v g) : w_M_isSitter l1 g Q := by
  unfold w_M_isSitter
  refine ⟨⟨by omega, by omega⟩, ?_⟩
  refine ⟨fun c4 => ?_, fun c4 => ?_⟩
  · have m_1 : 0 ≤ (g 214 7) ∧ (g 214 7) ≤ 8 := I.1 214 7
    exact hQ _ (by intros; omega) (by intros; omega) (by intros; omega)
  · have m_2 : 0 ≤ (g 214 7) ∧ (g 214 7) ≤ 8 := I.1 214 7
    refine ⟨⟨by omega, by omega⟩, ?_⟩
    refine ⟨fun c3 => ?_, fun c3 => ?_⟩
    · exact hQ _ (by intros; omega) (by intros; omega) (by intros; omega)
    · exact hQ _ (by intros; omega) (by intros; omega) (by intros; omega)
-- SpoutNewsModel.canSet(III)Z
set_option maxRecDepth 100000 in
set_option maxHeartbeats 4000000 in
theorem k_M_canSet {l1 : Int} {l2 : Int} {l3 : Int} {g : zi_M} {Q : Int → zi_M → Prop} (I : zk_I g) (p1 : (-2147483648) ≤ l1 ∧ l1 ≤ 2147483647) (p2 : (-2147483648) ≤ l2 ∧ l2 ≤ 2147483647) (p3 : (-2147483648) ≤ l3 ∧ l3 ≤ 2147483647) (hQ : ∀ v : Int, (0 ≤ v ∧ v ≤ 1) → (¬ v = 0 ∧ (l1 = 0) → 0 ≤ l3 ∧ l3 ≤ 9) → (¬ v = 0 ∧ (l1 = 1) → 0 ≤ l2 ∧ l2 ≤ 9 ∧ 0 ≤ l3 ∧ l3 ≤ 99) → (¬ v = 0 ∧ (l1 = 2) → 0 ≤ l2 ∧ l2 ≤ 9 ∧ 0 ≤ l3 ∧ l3 ≤ 999) → (¬ v = 0 ∧ (l1 < 0 ∨ 2 < l1) → 0 ≤ l2 ∧ l2 ≤ 7 ∧ 0 ≤ l3 ∧ l3 ≤ 65535) → (zPs (g 214 6) (g 214 7) l1 l2 l3 → ¬ v = 0) → (¬ zPs (g 214 6) (g 214 7) l1 l2 l3 → v = 0) → Q v g) : w_M_canSet l1 l2 l3 g Q := by
  unfold w_M_canSet
  refine ⟨⟨by omega, by omega⟩, ?_⟩
  refine ⟨fun c31 => ?_, fun c31 => ?_⟩
  · refine ⟨fun c27 => ?_, fun c27 => ?_⟩
    · refine k_M_isIn I ⟨by omega, by omega⟩ ⟨by omega, by omega⟩ ⟨by omega, by omega⟩ (fun v2 b_1 b_2 b_3 => ?_)
      refine ⟨fun c18 => ?_, fun c18 => ?_⟩
      · exact hQ _ ⟨by omega, by omega⟩ (by omega) (by omega) (by omega) (by omega) (by intro hv; unfold zPs at hv; omega) (by intro hv; unfold zPs at hv; omega)
      · have m_7 : 0 ≤ (g 214 6) ∧ (g 214 6) ≤ 10 := I.1 214 6
        refine k_M_isSpout I ⟨by omega, by omega⟩ (fun v5 b_4 b_5 b_6 => ?_)
        refine ⟨fun c17 => ?_, fun c17 => ?_⟩
        · exact hQ _ ⟨by omega, by omega⟩ (by omega) (by omega) (by omega) (by omega) (by intro hv; unfold zPs at hv; omega) (by intro hv; unfold zPs at hv; omega)
        · refine ⟨fun c16 => ?_, fun c16 => ?_⟩
          · refine k_M_isIn I ⟨by omega, by omega⟩ ⟨by omega, by omega⟩ ⟨by omega, by omega⟩ (fun v8 b_8 b_9 b_10 => ?_)
            refine ⟨fun c11 => ?_, fun c11 => ?_⟩
            · exact hQ _ ⟨by omega, by omega⟩ (by omega) (by omega) (by omega) (by omega) (by intro hv; unfold zPs at hv; omega) (by intro hv; unfold zPs at hv; omega)
            · exact hQ _ ⟨by omega, by omega⟩ (by omega) (by omega) (by omega) (by omega) (by intro hv; unfold zPs at hv; omega) (by intro hv; unfold zPs at hv; omega)
          · refine k_M_isIn I ⟨by omega, by omega⟩ ⟨by omega, by omega⟩ ⟨by omega, by omega⟩ (fun v12 b_11 b_12 b_13 => ?_)
            refine ⟨fun c15 => ?_, fun c15 => ?_⟩
            · exact hQ _ ⟨by omega, by omega⟩ (by omega) (by omega) (by omega) (by omega) (by intro hv; unfold zPs at hv; omega) (by intro hv; unfold zPs at hv; omega)
            · exact hQ _ ⟨by omega, by omega⟩ (by omega) (by omega) (by omega) (by omega) (by intro hv; unfold zPs at hv; omega) (by intro hv; unfold zPs at hv; omega)
    · have m_17 : 0 ≤ (g 214 7) ∧ (g 214 7) ≤ 8 := I.1 214 7
      refine k_M_isSitter I ⟨by omega, by omega⟩ (fun v19 b_14 b_15 b_16 => ?_)
      refine ⟨fun c26 => ?_, fun c26 => ?_⟩
      · exact hQ _ ⟨by omega, by omega⟩ (by omega) (by omega) (by omega) (by omega) (by intro hv; unfold zPs at hv; omega) (by intro hv; unfold zPs at hv; omega)
      · refine k_M_isIn I ⟨by omega, by omega⟩ ⟨by omega, by omega⟩ ⟨by omega, by omega⟩ (fun v22 b_18 b_19 b_20 => ?_)
        refine ⟨fun c25 => ?_, fun c25 => ?_⟩
        · exact hQ _ ⟨by omega, by omega⟩ (by omega) (by omega) (by omega) (by omega) (by intro hv; unfold zPs at hv; omega) (by intro hv; unfold zPs at hv; omega)
        · exact hQ _ ⟨by omega, by omega⟩ (by omega) (by omega) (by omega) (by omega) (by intro hv; unfold zPs at hv; omega) (by intro hv; unfold zPs at hv; omega)
  · refine k_M_isIn I ⟨by omega, by omega⟩ ⟨by omega, by omega⟩ ⟨by omega, by omega⟩ (fun v28 b_21 b_22 b_23 => ?_)
    exact hQ _ ⟨by omega, by omega⟩ (by omega) (by omega) (by omega) (by omega) (by intro hv; unfold zPs at hv; omega) (by intro hv; unfold zPs at hv; omega)
-- SpoutNewsModel.set(III)Z
set_option maxRecDepth 100000 in
set_option maxHeartbeats 4000000 in
theorem k_M_set_b55 {l1 : Int} {l2 : Int} {l3 : Int} {Q : Int → zi_M → Prop} {g : zi_M} {g0 : zi_M} (I : zk_I g) (F : zk_fr fr_M_set g0 g) (p1 : (-2147483648) ≤ l1 ∧ l1 ≤ 2147483647) (p2 : (-2147483648) ≤ l2 ∧ l2 ≤ 2147483647) (p3 : (-2147483648) ≤ l3 ∧ l3 ≤ 2147483647) (ix0 : (l1 = 0) → 0 ≤ l3 ∧ l3 ≤ 9) (ix1 : (l1 = 1) → 0 ≤ l2 ∧ l2 ≤ 9 ∧ 0 ≤ l3 ∧ l3 ≤ 99) (ix2 : (l1 = 2) → 0 ≤ l2 ∧ l2 ≤ 9 ∧ 0 ≤ l3 ∧ l3 ≤ 999) (ix3 : (l1 < 0 ∨ 2 < l1) → 0 ≤ l2 ∧ l2 ≤ 7 ∧ 0 ≤ l3 ∧ l3 ≤ 65535) (ix4 : zPs (g0 214 6) (g0 214 7) l1 l2 l3) (ix5 : g 214 6 = g0 214 6) (ix6 : g 214 7 = g0 214 7) (ix7 : ∀ k : Int, (l1 = 1 ∧ k = l2 → g 220 k = l3) ∧ (¬ (l1 = 1 ∧ k = l2) → g 220 k = g0 220 k)) (hQ : ∀ (v : Int) (g' : zi_M), zk_I g' → zk_fr fr_M_set g0 g' → (0 ≤ v ∧ v ≤ 1) → (zPs (g0 214 6) (g0 214 7) l1 l2 l3 → v = 1) → (¬ zPs (g0 214 6) (g0 214 7) l1 l2 l3 → v = 0) → (∀ k : Int, 0 ≤ k ∧ k < 10 → (¬ v = 0 ∧ l1 = 1 ∧ k = l2 → g' 220 k = l3) ∧ (¬ (¬ v = 0 ∧ l1 = 1 ∧ k = l2) → g' 220 k = g0 220 k)) → Q v g') : w_M_set_b55 l1 l2 l3 g Q := by
  unfold w_M_set_b55
  refine ⟨⟨by omega, by omega⟩, ?_⟩
  refine ⟨fun c13 => ?_, fun c13 => ?_⟩
  · intro g9 e_17
    have I_18 : zk_I g9 := by rw [e_17]; exact zk_upd (L := 0) (H := 6) rfl rfl I ⟨by omega, by omega⟩
    have F_19 : zk_fr fr_M_set g0 g9 := by rw [e_17]; exact zk_fu F (Or.inr (Or.inr (Or.inl ⟨rfl, rfl⟩)))
    have z_24 : ∀ k : Int, 0 ≤ k ∧ k < 10 → (¬ (1 : Int) = 0 ∧ l1 = 1 ∧ k = l2 → g9 220 k = l3) ∧ (¬ (¬ (1 : Int) = 0 ∧ l1 = 1 ∧ k = l2) → g9 220 k = g0 220 k) := by
      intro k hk
      have m_20 : 0 ≤ (g9 220 k) ∧ (g9 220 k) ≤ 99 := I_18.1 220 k
      have m_21 : g9 220 k = g 220 k := by rw [e_17]; exact zi_u_ne (by decide)
      have m_22 : 0 ≤ (g 220 k) ∧ (g 220 k) ≤ 99 := I.1 220 k
      have m_23 := ix7 k
      omega
    exact hQ _ _ I_18 F_19 ⟨by omega, by omega⟩ (by intro hv; first | rfl | exact absurd (by assumption) hv | exact zP_1 (by assumption) (by omega) (by omega) (by omega) hv | exact zP_2 (by assumption) (by omega) (by omega) (by omega) hv) (by intro hv; first | rfl | exact absurd (by assumption) hv | exact zP_1 (by assumption) (by omega) (by omega) (by omega) hv | exact zP_2 (by assumption) (by omega) (by omega) (by omega) hv) z_24
  · refine ⟨⟨by omega, by omega⟩, ?_⟩
    intro g11 e_25
    have I_26 : zk_I g11 := by rw [e_25]; exact zk_upd (zk_nl236 (i := 236 + l2) (by omega)).1 (zk_nl236 (i := 236 + l2) (by omega)).2 I ⟨by omega, by omega⟩
    have F_27 : zk_fr fr_M_set g0 g11 := by rw [e_25]; exact zk_fu F (Or.inr (Or.inr (Or.inr (Or.inr (Or.inl ⟨rfl, by omega, by omega⟩)))))
    intro g12 e_28
    have I_29 : zk_I g12 := by rw [e_28]; exact zk_upd (L := 0) (H := 6) rfl rfl I_26 ⟨by omega, by omega⟩
    have F_30 : zk_fr fr_M_set g0 g12 := by rw [e_28]; exact zk_fu F_27 (Or.inr (Or.inr (Or.inl ⟨rfl, rfl⟩)))
    have z_37 : ∀ k : Int, 0 ≤ k ∧ k < 10 → (¬ (1 : Int) = 0 ∧ l1 = 1 ∧ k = l2 → g12 220 k = l3) ∧ (¬ (¬ (1 : Int) = 0 ∧ l1 = 1 ∧ k = l2) → g12 220 k = g0 220 k) := by
      intro k hk
      have m_31 : 0 ≤ (g12 220 k) ∧ (g12 220 k) ≤ 99 := I_29.1 220 k
      have m_32 : g12 220 k = g11 220 k := by rw [e_28]; exact zi_u_ne (by decide)
      have m_33 : 0 ≤ (g11 220 k) ∧ (g11 220 k) ≤ 99 := I_26.1 220 k
      have m_34 : g11 220 k = g 220 k := by rw [e_25]; exact zi_u_ne (by decide)
      have m_35 : 0 ≤ (g 220 k) ∧ (g 220 k) ≤ 99 := I.1 220 k
      have m_36 := ix7 k
      omega
    exact hQ _ _ I_29 F_30 ⟨by omega, by omega⟩ (by intro hv; first | rfl | exact absurd (by assumption) hv | exact zP_1 (by assumption) (by omega) (by omega) (by omega) hv | exact zP_2 (by assumption) (by omega) (by omega) (by omega) hv) (by intro hv; first | rfl | exact absurd (by assumption) hv | exact zP_1 (by assumption) (by omega) (by omega) (by omega) hv | exact zP_2 (by assumption) (by omega) (by omega) (by omega) hv) z_37
set_option maxRecDepth 100000 in
set_option maxHeartbeats 4000000 in
theorem k_M_set_b40 {l1 : Int} {l2 : Int} {l3 : Int} {Q : Int → zi_M → Prop} {g : zi_M} {g0 : zi_M} (I : zk_I g) (F : zk_fr fr_M_set g0 g) (p1 : (-2147483648) ≤ l1 ∧ l1 ≤ 2147483647) (p2 : (-2147483648) ≤ l2 ∧ l2 ≤ 2147483647) (p3 : (-2147483648) ≤ l3 ∧ l3 ≤ 2147483647) (ix0 : (l1 = 0) → 0 ≤ l3 ∧ l3 ≤ 9) (ix1 : (l1 = 1) → 0 ≤ l2 ∧ l2 ≤ 9 ∧ 0 ≤ l3 ∧ l3 ≤ 99) (ix2 : (l1 = 2) → 0 ≤ l2 ∧ l2 ≤ 9 ∧ 0 ≤ l3 ∧ l3 ≤ 999) (ix3 : (l1 < 0 ∨ 2 < l1) → 0 ≤ l2 ∧ l2 ≤ 7 ∧ 0 ≤ l3 ∧ l3 ≤ 65535) (ix4 : zPs (g0 214 6) (g0 214 7) l1 l2 l3) (ix5 : g 214 6 = g0 214 6) (ix6 : g 214 7 = g0 214 7) (ix7 : ∀ k : Int, (l1 = 1 ∧ k = l2 → g 220 k = l3) ∧ (¬ (l1 = 1 ∧ k = l2) → g 220 k = g0 220 k)) (hQ : ∀ (v : Int) (g' : zi_M), zk_I g' → zk_fr fr_M_set g0 g' → (0 ≤ v ∧ v ≤ 1) → (zPs (g0 214 6) (g0 214 7) l1 l2 l3 → v = 1) → (¬ zPs (g0 214 6) (g0 214 7) l1 l2 l3 → v = 0) → (∀ k : Int, 0 ≤ k ∧ k < 10 → (¬ v = 0 ∧ l1 = 1 ∧ k = l2 → g' 220 k = l3) ∧ (¬ (¬ v = 0 ∧ l1 = 1 ∧ k = l2) → g' 220 k = g0 220 k)) → Q v g') : w_M_set_b40 l1 l2 l3 g Q := by
  unfold w_M_set_b40
  refine ⟨⟨by omega, by omega⟩, ?_⟩
  refine ⟨fun c16 => ?_, fun c16 => ?_⟩
  · have m_38 : 0 ≤ (g 214 6) ∧ (g 214 6) ≤ 10 := I.1 214 6
    have m_39 : 0 ≤ (g 214 7) ∧ (g 214 7) ≤ 8 := I.1 214 7
    exact k_M_set_b55 I F ⟨by omega, by omega⟩ ⟨by omega, by omega⟩ ⟨by omega, by omega⟩ (by omega) (by omega) (by omega) (by omega) (by first | assumption | exact zPs_of (by assumption) (by omega) (by omega) (by omega)) (by omega) (by omega) (by first | assumption | exact rw_no (by assumption) (by omega) | exact rw_st (by assumption) (by assumption) (by omega) | exact rw_kp (by assumption) (by assumption) (by decide)) hQ
  · refine ⟨⟨by omega, by omega⟩, ?_⟩
    intro g15 e_40
    have I_41 : zk_I g15 := by rw [e_40]; exact zk_upd (zk_nl16 (i := 16 + l2) (by omega)).1 (zk_nl16 (i := 16 + l2) (by omega)).2 I ⟨by omega, by omega⟩
    have F_42 : zk_fr fr_M_set g0 g15 := by rw [e_40]; exact zk_fu F (Or.inr (Or.inr (Or.inr (Or.inl ⟨rfl, by omega, by omega⟩))))
    have m_43 : 0 ≤ (g15 214 6) ∧ (g15 214 6) ≤ 10 := I_41.1 214 6
    have m_44 : g15 214 6 = g 214 6 := by rw [e_40]; exact zi_u_ne (by decide)
    have m_45 : 0 ≤ (g 214 6) ∧ (g 214 6) ≤ 10 := I.1 214 6
    have m_46 : 0 ≤ (g15 214 7) ∧ (g15 214 7) ≤ 8 := I_41.1 214 7
    have m_47 : g15 214 7 = g 214 7 := by rw [e_40]; exact zi_u_ne (by decide)
    have m_48 : 0 ≤ (g 214 7) ∧ (g 214 7) ≤ 8 := I.1 214 7
    exact k_M_set_b55 I_41 F_42 ⟨by omega, by omega⟩ ⟨by omega, by omega⟩ ⟨by omega, by omega⟩ (by omega) (by omega) (by omega) (by omega) (by first | assumption | exact zPs_of (by assumption) (by omega) (by omega) (by omega)) (by omega) (by omega) (by first | assumption | exact rw_no (by assumption) (by omega) | exact rw_st (by assumption) (by assumption) (by omega) | exact rw_kp (by assumption) (by assumption) (by decide)) hQ
set_option maxRecDepth 100000 in
set_option maxHeartbeats 4000000 in
theorem k_M_set_b28 {l1 : Int} {l2 : Int} {l3 : Int} {Q : Int → zi_M → Prop} {g : zi_M} {g0 : zi_M} (I : zk_I g) (F : zk_fr fr_M_set g0 g) (p1 : (-2147483648) ≤ l1 ∧ l1 ≤ 2147483647) (p2 : (-2147483648) ≤ l2 ∧ l2 ≤ 2147483647) (p3 : (-2147483648) ≤ l3 ∧ l3 ≤ 2147483647) (ix0 : (l1 = 0) → 0 ≤ l3 ∧ l3 ≤ 9) (ix1 : (l1 = 1) → 0 ≤ l2 ∧ l2 ≤ 9 ∧ 0 ≤ l3 ∧ l3 ≤ 99) (ix2 : (l1 = 2) → 0 ≤ l2 ∧ l2 ≤ 9 ∧ 0 ≤ l3 ∧ l3 ≤ 999) (ix3 : (l1 < 0 ∨ 2 < l1) → 0 ≤ l2 ∧ l2 ≤ 7 ∧ 0 ≤ l3 ∧ l3 ≤ 65535) (ix4 : zPs (g0 214 6) (g0 214 7) l1 l2 l3) (ix5 : g 214 6 = g0 214 6) (ix6 : g 214 7 = g0 214 7) (ix7 : ∀ k : Int, g 220 k = g0 220 k) (hQ : ∀ (v : Int) (g' : zi_M), zk_I g' → zk_fr fr_M_set g0 g' → (0 ≤ v ∧ v ≤ 1) → (zPs (g0 214 6) (g0 214 7) l1 l2 l3 → v = 1) → (¬ zPs (g0 214 6) (g0 214 7) l1 l2 l3 → v = 0) → (∀ k : Int, 0 ≤ k ∧ k < 10 → (¬ v = 0 ∧ l1 = 1 ∧ k = l2 → g' 220 k = l3) ∧ (¬ (¬ v = 0 ∧ l1 = 1 ∧ k = l2) → g' 220 k = g0 220 k)) → Q v g') : w_M_set_b28 l1 l2 l3 g Q := by
  unfold w_M_set_b28
  refine ⟨⟨by omega, by omega⟩, ?_⟩
  refine ⟨fun c19 => ?_, fun c19 => ?_⟩
  · have m_49 : 0 ≤ (g 214 6) ∧ (g 214 6) ≤ 10 := I.1 214 6
    have m_50 : 0 ≤ (g 214 7) ∧ (g 214 7) ≤ 8 := I.1 214 7
    exact k_M_set_b40 I F ⟨by omega, by omega⟩ ⟨by omega, by omega⟩ ⟨by omega, by omega⟩ (by omega) (by omega) (by omega) (by omega) (by first | assumption | exact zPs_of (by assumption) (by omega) (by omega) (by omega)) (by omega) (by omega) (by first | assumption | exact rw_no (by assumption) (by omega) | exact rw_st (by assumption) (by assumption) (by omega) | exact rw_kp (by assumption) (by assumption) (by decide)) hQ
  · refine ⟨⟨by omega, by omega⟩, ?_⟩
    intro g18 e_51
    have I_52 : zk_I g18 := by rw [e_51]; exact zk_upd (L := 0) (H := 99) rfl rfl I ⟨by omega, by omega⟩
    have F_53 : zk_fr fr_M_set g0 g18 := by rw [e_51]; exact zk_fu F (Or.inl rfl)
    have m_54 : 0 ≤ (g18 214 6) ∧ (g18 214 6) ≤ 10 := I_52.1 214 6
    have m_55 : g18 214 6 = g 214 6 := by rw [e_51]; exact zi_u_ne (by decide)
    have m_56 : 0 ≤ (g 214 6) ∧ (g 214 6) ≤ 10 := I.1 214 6
    have m_57 : 0 ≤ (g18 214 7) ∧ (g18 214 7) ≤ 8 := I_52.1 214 7
    have m_58 : g18 214 7 = g 214 7 := by rw [e_51]; exact zi_u_ne (by decide)
    have m_59 : 0 ≤ (g 214 7) ∧ (g 214 7) ≤ 8 := I.1 214 7
    exact k_M_set_b40 I_52 F_53 ⟨by omega, by omega⟩ ⟨by omega, by omega⟩ ⟨by omega, by omega⟩ (by omega) (by omega) (by omega) (by omega) (by first | assumption | exact zPs_of (by assumption) (by omega) (by omega) (by omega)) (by omega) (by omega) (by first | assumption | exact rw_no (by assumption) (by omega) | exact rw_st (by assumption) (by assumption) (by omega) | exact rw_kp (by assumption) (by assumption) (by decide)) hQ
set_option maxRecDepth 100000 in
set_option maxHeartbeats 4000000 in
theorem k_M_set {l1 : Int} {l2 : Int} {l3 : Int} {g : zi_M} {Q : Int → zi_M → Prop} (I : zk_I g) (p1 : (-2147483648) ≤ l1 ∧ l1 ≤ 2147483647) (p2 : (-2147483648) ≤ l2 ∧ l2 ≤ 2147483647) (p3 : (-2147483648) ≤ l3 ∧ l3 ≤ 2147483647) (hQ : ∀ (v : Int) (g' : zi_M), zk_I g' → zk_fr fr_M_set g g' → (0 ≤ v ∧ v ≤ 1) → (zPs (g 214 6) (g 214 7) l1 l2 l3 → v = 1) → (¬ zPs (g 214 6) (g 214 7) l1 l2 l3 → v = 0) → (∀ k : Int, 0 ≤ k ∧ k < 10 → (¬ v = 0 ∧ l1 = 1 ∧ k = l2 → g' 220 k = l3) ∧ (¬ (¬ v = 0 ∧ l1 = 1 ∧ k = l2) → g' 220 k = g 220 k)) → Q v g') : w_M_set l1 l2 l3 g Q := by
  unfold w_M_set
  intro g1 e_1
  have I_2 : zk_I g1 := by rw [e_1]; exact zk_upd (L := (-2147483648)) (H := 2147483647) rfl rfl I ⟨by omega, by omega⟩
  have F_3 : zk_fr fr_M_set g g1 := by rw [e_1]; exact zk_fu (zk_f0 _) (Or.inr (Or.inl ⟨rfl, rfl⟩))
  have m_4 : 0 ≤ (g1 214 6) ∧ (g1 214 6) ≤ 10 := I_2.1 214 6
  have m_5 : g1 214 6 = g 214 6 := by rw [e_1]; exact zi_u_ni (by decide)
  have m_6 : 0 ≤ (g 214 6) ∧ (g 214 6) ≤ 10 := I.1 214 6
  have m_7 : 0 ≤ (g1 214 7) ∧ (g1 214 7) ≤ 8 := I_2.1 214 7
  have m_8 : g1 214 7 = g 214 7 := by rw [e_1]; exact zi_u_ni (by decide)
  have m_9 : 0 ≤ (g 214 7) ∧ (g 214 7) ≤ 8 := I.1 214 7
  refine k_M_canSet I_2 ⟨by omega, by omega⟩ ⟨by omega, by omega⟩ ⟨by omega, by omega⟩ (fun v2 b_10 b_11 b_12 b_13 b_14 b_15 b_16 => ?_)
  refine ⟨fun c22 => ?_, fun c22 => ?_⟩
  · refine ⟨⟨by omega, by omega⟩, ?_⟩
    refine ⟨fun c21 => ?_, fun c21 => ?_⟩
    · exact k_M_set_b28 I_2 F_3 ⟨by omega, by omega⟩ ⟨by omega, by omega⟩ ⟨by omega, by omega⟩ (by omega) (by omega) (by omega) (by omega) (by first | assumption | exact zPs_of (by assumption) (by omega) (by omega) (by omega)) (by omega) (by omega) (by first | assumption | (intro k; rfl) | (intro k; exact eqn_u (by assumption) (by decide) k) | (intro k; exact eqn_u2 (by assumption) (by assumption) (by decide) (by decide) k)) hQ
    · intro g20 e_60
      have I_61 : zk_I g20 := by rw [e_60]; exact zk_upd (zk_nl3 (i := 3) (by omega)).1 (zk_nl3 (i := 3) (by omega)).2 I_2 ⟨by omega, by omega⟩
      have F_62 : zk_fr fr_M_set g g20 := by rw [e_60]; exact zk_fu F_3 (Or.inr (Or.inr (Or.inr (Or.inr (Or.inr ⟨rfl, by omega, by omega⟩)))))
      have m_63 : 0 ≤ (g20 214 6) ∧ (g20 214 6) ≤ 10 := I_61.1 214 6
      have m_64 : g20 214 6 = g1 214 6 := by rw [e_60]; exact zi_u_ne (by decide)
      have m_65 : 0 ≤ (g20 214 7) ∧ (g20 214 7) ≤ 8 := I_61.1 214 7
      have m_66 : g20 214 7 = g1 214 7 := by rw [e_60]; exact zi_u_ne (by decide)
      exact k_M_set_b28 I_61 F_62 ⟨by omega, by omega⟩ ⟨by omega, by omega⟩ ⟨by omega, by omega⟩ (by omega) (by omega) (by omega) (by omega) (by first | assumption | exact zPs_of (by assumption) (by omega) (by omega) (by omega)) (by omega) (by omega) (by first | assumption | (intro k; rfl) | (intro k; exact eqn_u (by assumption) (by decide) k) | (intro k; exact eqn_u2 (by assumption) (by assumption) (by decide) (by decide) k)) hQ
  · have z_70 : ∀ k : Int, 0 ≤ k ∧ k < 10 → (¬ (0 : Int) = 0 ∧ l1 = 1 ∧ k = l2 → g1 220 k = l3) ∧ (¬ (¬ (0 : Int) = 0 ∧ l1 = 1 ∧ k = l2) → g1 220 k = g 220 k) := by
      intro k hk
      have m_67 : 0 ≤ (g1 220 k) ∧ (g1 220 k) ≤ 99 := I_2.1 220 k
      have m_68 : g1 220 k = g 220 k := by rw [e_1]; exact zi_u_ne (by decide)
      have m_69 : 0 ≤ (g 220 k) ∧ (g 220 k) ≤ 99 := I.1 220 k
      omega
    exact hQ _ _ I_2 F_3 ⟨by omega, by omega⟩ (by intro hv; first | rfl | exact absurd (by assumption) hv | exact zP_1 (by assumption) (by omega) (by omega) (by omega) hv | exact zP_2 (by assumption) (by omega) (by omega) (by omega) hv) (by intro hv; first | rfl | exact absurd (by assumption) hv | exact zP_1 (by assumption) (by omega) (by omega) (by omega) hv | exact zP_2 (by assumption) (by omega) (by omega) (by omega) hv) z_70
