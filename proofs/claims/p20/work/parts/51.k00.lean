-- by program (wip/gen/mkz.py)
-- SpoutNews$Past.forget()V
set_option maxRecDepth 100000 in
set_option maxHeartbeats 4000000 in
theorem k_Past_forget {g : zi_M} {Q : Int → zi_M → Prop} (I : zk_I g) (hQ : ∀ g' : zi_M, zk_I g' → zk_fr fr_Past_forget g g' → (g' 91 1 = 0) → Q 0 g') : w_Past_forget g Q := by
  unfold w_Past_forget
  intro g1 e_1
  have I_2 : zk_I g1 := by rw [e_1]; exact zk_upd (L := 0) (H := 6) rfl rfl I ⟨by omega, by omega⟩
  have F_3 : zk_fr fr_Past_forget g g1 := by rw [e_1]; exact zk_fu (zk_f0 _) ⟨rfl, rfl⟩
  have m_4 : 0 ≤ (g1 91 1) ∧ (g1 91 1) ≤ 6 := I_2.1 91 1
  have m_5 : g1 91 1 = 0 := by rw [e_1]; exact zi_u_eq
  exact hQ _ I_2 F_3 (by omega)
-- SpoutNews.state(I)I
set_option maxRecDepth 100000 in
set_option maxHeartbeats 4000000 in
theorem k_S_state {l1 : Int} {g : zi_M} {Q : Int → zi_M → Prop} (I : zk_I g) (p1 : (-2147483648) ≤ l1 ∧ l1 ≤ 2147483647) (hQ : ∀ (v : Int) (g' : zi_M), zk_I g' → zk_fr fr_S_state g g' → ((-2147483648) ≤ v ∧ v ≤ 2147483647) → (g' 91 1 = 0) → (g' 2 18 = l1) → Q v g') : w_S_state l1 g Q := by
  unfold w_S_state
  intro g1 e_1
  have I_2 : zk_I g1 := by rw [e_1]; exact zk_upd (L := (-2147483648)) (H := 2147483647) rfl rfl I ⟨by omega, by omega⟩
  have F_3 : zk_fr fr_S_state g g1 := by rw [e_1]; exact zk_fu (zk_f0 _) (Or.inl ⟨rfl, rfl⟩)
  refine k_Past_forget I_2 (fun g3 I_5 F_6 b_4 => ?_)
  have F_7 : zk_fr fr_S_state g g3 := zk_ft F_3 F_6 (fun a i => (fun h => (Or.inr h)))
  have m_8 : (-2147483648) ≤ (g 2 18) ∧ (g 2 18) ≤ 2147483647 := I.1 2 18
  have m_9 : 0 ≤ (g3 91 1) ∧ (g3 91 1) ≤ 6 := I_5.1 91 1
  have m_10 : (-2147483648) ≤ (g3 2 18) ∧ (g3 2 18) ≤ 2147483647 := I_5.1 2 18
  have m_11 : g3 2 18 = g1 2 18 := F_6 _ _ (by unfold fr_Past_forget; omega)
  have m_12 : (-2147483648) ≤ (g1 2 18) ∧ (g1 2 18) ≤ 2147483647 := I_2.1 2 18
  have m_13 : g1 2 18 = l1 := by rw [e_1]; exact zi_u_eq
  exact hQ _ _ I_5 F_7 ⟨by omega, by omega⟩ (by omega) (by omega)
-- SpoutNewsModel.state(I)I
set_option maxRecDepth 100000 in
set_option maxHeartbeats 4000000 in
theorem k_M_state {l1 : Int} {g : zi_M} {Q : Int → zi_M → Prop} (I : zk_I g) (p1 : (-2147483648) ≤ l1 ∧ l1 ≤ 2147483647) (hQ : ∀ (v : Int) (g' : zi_M), zk_I g' → zk_fr fr_M_state g g' → ((-2147483648) ≤ v ∧ v ≤ 2147483647) → (∀ k : Int, 0 ≤ k ∧ k < 264 → (k = 1 → g' 215 k = l1) ∧ (¬ k = 1 → g' 215 k = g 215 k)) → (g' 214 3 = 0) → Q v g') : w_M_state l1 g Q := by
  unfold w_M_state
  intro g1 e_1
  have I_2 : zk_I g1 := by rw [e_1]; exact zk_upd (L := (-2147483648)) (H := 2147483647) rfl rfl I ⟨by omega, by omega⟩
  have F_3 : zk_fr fr_M_state g g1 := by rw [e_1]; exact zk_fu (zk_f0 _) (Or.inl ⟨rfl, rfl⟩)
  intro g2 e_4
  have I_5 : zk_I g2 := by rw [e_4]; exact zk_upd (zk_nl0 (i := 1) (by omega)).1 (zk_nl0 (i := 1) (by omega)).2 I_2 ⟨by omega, by omega⟩
  have F_6 : zk_fr fr_M_state g g2 := by rw [e_4]; exact zk_fu F_3 (Or.inr (Or.inr ⟨rfl, by omega, by omega⟩))
  intro g3 e_7
  have I_8 : zk_I g3 := by rw [e_7]; exact zk_upd (L := 0) (H := 6) rfl rfl I_5 ⟨by omega, by omega⟩
  have F_9 : zk_fr fr_M_state g g3 := by rw [e_7]; exact zk_fu F_6 (Or.inr (Or.inl ⟨rfl, rfl⟩))
  have m_10 := zk_rng I_2 215 1
  have m_11 : g1 215 1 = g 215 1 := by rw [e_1]; exact zi_u_ne (by decide)
  have m_12 := zk_rng I 215 1
  have z_20 : ∀ k : Int, 0 ≤ k ∧ k < 264 → (k = 1 → g3 215 k = l1) ∧ (¬ k = 1 → g3 215 k = g 215 k) := by
    intro k hk
    have m_13 := zk_rng I_8 215 k
    have m_14 : g3 215 k = g2 215 k := by rw [e_7]; exact zi_u_ne (by decide)
    have m_15 := zk_rng I_5 215 k
    have m_16 := zk_rng I_2 215 k
    have m_17 : g1 215 k = g 215 k := by rw [e_1]; exact zi_u_ne (by decide)
    have m_18 := zk_rng I 215 k
    have m_19 : (k = 1 → g2 215 k = l1) ∧ (¬ k = 1 → g2 215 k = g1 215 k) := by rw [e_4]; exact zi_u_if
    omega
  have m_21 : 0 ≤ (g3 214 3) ∧ (g3 214 3) ≤ 6 := I_8.1 214 3
  have m_22 : g3 214 3 = 0 := by rw [e_7]; exact zi_u_eq
  exact hQ _ _ I_8 F_9 ⟨by omega, by omega⟩ z_20 (by omega)
-- SpoutNews$World.addSpout(III)I
set_option maxRecDepth 100000 in
set_option maxHeartbeats 4000000 in
theorem k_World_addSpout {l1 : Int} {l2 : Int} {l3 : Int} {g : zi_M} {Q : Int → zi_M → Prop} (I : zk_I g) (p1 : 0 ≤ l1 ∧ l1 ≤ 5) (p2 : 0 ≤ l2 ∧ l2 ≤ 3) (p3 : 0 ≤ l3 ∧ l3 ≤ 99) (hQ : ∀ (v : Int) (g' : zi_M), zk_I g' → zk_fr fr_World_addSpout g g' → ((-1) ≤ v ∧ v ≤ 9) → (g 2 8 < 10 → v = g 2 8 ∧ g' 2 8 = g 2 8 + 1) → (∀ k : Int, 0 ≤ k ∧ k < 10 → (g 2 8 < 10 ∧ k = g 2 8 → g' 5 k = l3) ∧ (¬ (g 2 8 < 10 ∧ k = g 2 8) → g' 5 k = g 5 k)) → (∀ k : Int, 0 ≤ k ∧ k < 10 → (g 2 8 < 10 ∧ k = g 2 8 → g' 6 k = 0) ∧ (¬ (g 2 8 < 10 ∧ k = g 2 8) → g' 6 k = g 6 k)) → (∀ k : Int, 0 ≤ k ∧ k < 10 → (g 2 8 < 10 ∧ k = g 2 8 → g' 7 k = 0) ∧ (¬ (g 2 8 < 10 ∧ k = g 2 8) → g' 7 k = g 7 k)) → (∀ k : Int, 0 ≤ k ∧ k < 10 → (g 2 8 < 10 ∧ k = g 2 8 → g' 8 k = 0) ∧ (¬ (g 2 8 < 10 ∧ k = g 2 8) → g' 8 k = g 8 k)) → Q v g') : w_World_addSpout l1 l2 l3 g Q := by
  unfold w_World_addSpout
  have m_1 : 0 ≤ (g 2 8) ∧ (g 2 8) ≤ 10 := I.1 2 8
  refine ⟨⟨by omega, by omega⟩, ?_⟩
  refine ⟨fun c10 => ?_, fun c10 => ?_⟩
  · refine ⟨⟨by omega, by omega⟩, ?_⟩
    intro g3 e_2
    have I_3 : zk_I g3 := by rw [e_2]; exact zk_upd (L := 0) (H := 5) rfl rfl I ⟨by omega, by omega⟩
    have F_4 : zk_fr fr_World_addSpout g g3 := by rw [e_2]; exact zk_fu (zk_f0 _) (Or.inl rfl)
    intro g4 e_5
    have I_6 : zk_I g4 := by rw [e_5]; exact zk_upd (L := 0) (H := 3) rfl rfl I_3 ⟨by omega, by omega⟩
    have F_7 : zk_fr fr_World_addSpout g g4 := by rw [e_5]; exact zk_fu F_4 (Or.inr (Or.inl rfl))
    intro g5 e_8
    have I_9 : zk_I g5 := by rw [e_8]; exact zk_upd (L := 0) (H := 99) rfl rfl I_6 ⟨by omega, by omega⟩
    have F_10 : zk_fr fr_World_addSpout g g5 := by rw [e_8]; exact zk_fu F_7 (Or.inr (Or.inr (Or.inl rfl)))
    intro g6 e_11
    have I_12 : zk_I g6 := by rw [e_11]; exact zk_upd (L := 0) (H := 2) rfl rfl I_9 ⟨by omega, by omega⟩
    have F_13 : zk_fr fr_World_addSpout g g6 := by rw [e_11]; exact zk_fu F_10 (Or.inr (Or.inr (Or.inr (Or.inl rfl))))
    intro g7 e_14
    have I_15 : zk_I g7 := by rw [e_14]; exact zk_upd (L := 0) (H := 999) rfl rfl I_12 ⟨by omega, by omega⟩
    have F_16 : zk_fr fr_World_addSpout g g7 := by rw [e_14]; exact zk_fu F_13 (Or.inr (Or.inr (Or.inr (Or.inr (Or.inl rfl)))))
    intro g8 e_17
    have I_18 : zk_I g8 := by rw [e_17]; exact zk_upd (L := 0) (H := 20) rfl rfl I_15 ⟨by omega, by omega⟩
    have F_19 : zk_fr fr_World_addSpout g g8 := by rw [e_17]; exact zk_fu F_16 (Or.inr (Or.inr (Or.inr (Or.inr (Or.inr (Or.inl rfl))))))
    intro g9 e_20
    have I_21 : zk_I g9 := by rw [e_20]; exact zk_upd (L := 0) (H := 10) rfl rfl I_18 ⟨by omega, by omega⟩
    have F_22 : zk_fr fr_World_addSpout g g9 := by rw [e_20]; exact zk_fu F_19 (Or.inr (Or.inr (Or.inr (Or.inr (Or.inr (Or.inr ⟨rfl, rfl⟩))))))
    have m_23 : 0 ≤ (g9 2 8) ∧ (g9 2 8) ≤ 10 := I_21.1 2 8
    have m_24 : g9 2 8 = (g 2 8) + 1 := by rw [e_20]; exact zi_u_eq
    have z_40 : ∀ k : Int, 0 ≤ k ∧ k < 10 → (g 2 8 < 10 ∧ k = g 2 8 → g9 5 k = l3) ∧ (¬ (g 2 8 < 10 ∧ k = g 2 8) → g9 5 k = g 5 k) := by
      intro k hk
      have m_25 : 0 ≤ (g9 5 k) ∧ (g9 5 k) ≤ 99 := I_21.1 5 k
      have m_26 : g9 5 k = g8 5 k := by rw [e_20]; exact zi_u_ne (by decide)
      have m_27 : 0 ≤ (g8 5 k) ∧ (g8 5 k) ≤ 99 := I_18.1 5 k
      have m_28 : g8 5 k = g7 5 k := by rw [e_17]; exact zi_u_ne (by decide)
      have m_29 : 0 ≤ (g7 5 k) ∧ (g7 5 k) ≤ 99 := I_15.1 5 k
      have m_30 : g7 5 k = g6 5 k := by rw [e_14]; exact zi_u_ne (by decide)
      have m_31 : 0 ≤ (g6 5 k) ∧ (g6 5 k) ≤ 99 := I_12.1 5 k
      have m_32 : g6 5 k = g5 5 k := by rw [e_11]; exact zi_u_ne (by decide)
      have m_33 : 0 ≤ (g5 5 k) ∧ (g5 5 k) ≤ 99 := I_9.1 5 k
      have m_34 : 0 ≤ (g4 5 k) ∧ (g4 5 k) ≤ 99 := I_6.1 5 k
      have m_35 : g4 5 k = g3 5 k := by rw [e_5]; exact zi_u_ne (by decide)
      have m_36 : 0 ≤ (g3 5 k) ∧ (g3 5 k) ≤ 99 := I_3.1 5 k
      have m_37 : g3 5 k = g 5 k := by rw [e_2]; exact zi_u_ne (by decide)
      have m_38 : 0 ≤ (g 5 k) ∧ (g 5 k) ≤ 99 := I.1 5 k
      have m_39 : (k = g 2 8 → g5 5 k = l3) ∧ (¬ k = g 2 8 → g5 5 k = g4 5 k) := by rw [e_8]; exact zi_u_if
      omega
    have z_56 : ∀ k : Int, 0 ≤ k ∧ k < 10 → (g 2 8 < 10 ∧ k = g 2 8 → g9 6 k = 0) ∧ (¬ (g 2 8 < 10 ∧ k = g 2 8) → g9 6 k = g 6 k) := by
      intro k hk
      have m_41 : 0 ≤ (g9 6 k) ∧ (g9 6 k) ≤ 2 := I_21.1 6 k
      have m_42 : g9 6 k = g8 6 k := by rw [e_20]; exact zi_u_ne (by decide)
      have m_43 : 0 ≤ (g8 6 k) ∧ (g8 6 k) ≤ 2 := I_18.1 6 k
      have m_44 : g8 6 k = g7 6 k := by rw [e_17]; exact zi_u_ne (by decide)
      have m_45 : 0 ≤ (g7 6 k) ∧ (g7 6 k) ≤ 2 := I_15.1 6 k
      have m_46 : g7 6 k = g6 6 k := by rw [e_14]; exact zi_u_ne (by decide)
      have m_47 : 0 ≤ (g6 6 k) ∧ (g6 6 k) ≤ 2 := I_12.1 6 k
      have m_48 : 0 ≤ (g5 6 k) ∧ (g5 6 k) ≤ 2 := I_9.1 6 k
      have m_49 : g5 6 k = g4 6 k := by rw [e_8]; exact zi_u_ne (by decide)
      have m_50 : 0 ≤ (g4 6 k) ∧ (g4 6 k) ≤ 2 := I_6.1 6 k
      have m_51 : g4 6 k = g3 6 k := by rw [e_5]; exact zi_u_ne (by decide)
      have m_52 : 0 ≤ (g3 6 k) ∧ (g3 6 k) ≤ 2 := I_3.1 6 k
      have m_53 : g3 6 k = g 6 k := by rw [e_2]; exact zi_u_ne (by decide)
      have m_54 : 0 ≤ (g 6 k) ∧ (g 6 k) ≤ 2 := I.1 6 k
      have m_55 : (k = g 2 8 → g6 6 k = 0) ∧ (¬ k = g 2 8 → g6 6 k = g5 6 k) := by rw [e_11]; exact zi_u_if
      omega
    have z_72 : ∀ k : Int, 0 ≤ k ∧ k < 10 → (g 2 8 < 10 ∧ k = g 2 8 → g9 7 k = 0) ∧ (¬ (g 2 8 < 10 ∧ k = g 2 8) → g9 7 k = g 7 k) := by
      intro k hk
      have m_57 : 0 ≤ (g9 7 k) ∧ (g9 7 k) ≤ 999 := I_21.1 7 k
      have m_58 : g9 7 k = g8 7 k := by rw [e_20]; exact zi_u_ne (by decide)
      have m_59 : 0 ≤ (g8 7 k) ∧ (g8 7 k) ≤ 999 := I_18.1 7 k
      have m_60 : g8 7 k = g7 7 k := by rw [e_17]; exact zi_u_ne (by decide)
      have m_61 : 0 ≤ (g7 7 k) ∧ (g7 7 k) ≤ 999 := I_15.1 7 k
      have m_62 : 0 ≤ (g6 7 k) ∧ (g6 7 k) ≤ 999 := I_12.1 7 k
      have m_63 : g6 7 k = g5 7 k := by rw [e_11]; exact zi_u_ne (by decide)
      have m_64 : 0 ≤ (g5 7 k) ∧ (g5 7 k) ≤ 999 := I_9.1 7 k
      have m_65 : g5 7 k = g4 7 k := by rw [e_8]; exact zi_u_ne (by decide)
      have m_66 : 0 ≤ (g4 7 k) ∧ (g4 7 k) ≤ 999 := I_6.1 7 k
      have m_67 : g4 7 k = g3 7 k := by rw [e_5]; exact zi_u_ne (by decide)
      have m_68 : 0 ≤ (g3 7 k) ∧ (g3 7 k) ≤ 999 := I_3.1 7 k
      have m_69 : g3 7 k = g 7 k := by rw [e_2]; exact zi_u_ne (by decide)
      have m_70 : 0 ≤ (g 7 k) ∧ (g 7 k) ≤ 999 := I.1 7 k
      have m_71 : (k = g 2 8 → g7 7 k = 0) ∧ (¬ k = g 2 8 → g7 7 k = g6 7 k) := by rw [e_14]; exact zi_u_if
      omega
    have z_88 : ∀ k : Int, 0 ≤ k ∧ k < 10 → (g 2 8 < 10 ∧ k = g 2 8 → g9 8 k = 0) ∧ (¬ (g 2 8 < 10 ∧ k = g 2 8) → g9 8 k = g 8 k) := by
      intro k hk
      have m_73 : 0 ≤ (g9 8 k) ∧ (g9 8 k) ≤ 20 := I_21.1 8 k
      have m_74 : g9 8 k = g8 8 k := by rw [e_20]; exact zi_u_ne (by decide)
      have m_75 : 0 ≤ (g8 8 k) ∧ (g8 8 k) ≤ 20 := I_18.1 8 k
      have m_76 : 0 ≤ (g7 8 k) ∧ (g7 8 k) ≤ 20 := I_15.1 8 k
      have m_77 : g7 8 k = g6 8 k := by rw [e_14]; exact zi_u_ne (by decide)
      have m_78 : 0 ≤ (g6 8 k) ∧ (g6 8 k) ≤ 20 := I_12.1 8 k
      have m_79 : g6 8 k = g5 8 k := by rw [e_11]; exact zi_u_ne (by decide)
      have m_80 : 0 ≤ (g5 8 k) ∧ (g5 8 k) ≤ 20 := I_9.1 8 k
      have m_81 : g5 8 k = g4 8 k := by rw [e_8]; exact zi_u_ne (by decide)
      have m_82 : 0 ≤ (g4 8 k) ∧ (g4 8 k) ≤ 20 := I_6.1 8 k
      have m_83 : g4 8 k = g3 8 k := by rw [e_5]; exact zi_u_ne (by decide)
      have m_84 : 0 ≤ (g3 8 k) ∧ (g3 8 k) ≤ 20 := I_3.1 8 k
      have m_85 : g3 8 k = g 8 k := by rw [e_2]; exact zi_u_ne (by decide)
      have m_86 : 0 ≤ (g 8 k) ∧ (g 8 k) ≤ 20 := I.1 8 k
      have m_87 : (k = g 2 8 → g8 8 k = 0) ∧ (¬ k = g 2 8 → g8 8 k = g7 8 k) := by rw [e_17]; exact zi_u_if
      omega
    exact hQ _ _ I_21 F_22 ⟨by omega, by omega⟩ (by omega) z_40 z_56 z_72 z_88
  · have z_90 : ∀ k : Int, 0 ≤ k ∧ k < 10 → (g 2 8 < 10 ∧ k = g 2 8 → g 5 k = l3) ∧ (¬ (g 2 8 < 10 ∧ k = g 2 8) → g 5 k = g 5 k) := by
      intro k hk
      have m_89 : 0 ≤ (g 5 k) ∧ (g 5 k) ≤ 99 := I.1 5 k
      omega
    have z_92 : ∀ k : Int, 0 ≤ k ∧ k < 10 → (g 2 8 < 10 ∧ k = g 2 8 → g 6 k = 0) ∧ (¬ (g 2 8 < 10 ∧ k = g 2 8) → g 6 k = g 6 k) := by
      intro k hk
      have m_91 : 0 ≤ (g 6 k) ∧ (g 6 k) ≤ 2 := I.1 6 k
      omega
    have z_94 : ∀ k : Int, 0 ≤ k ∧ k < 10 → (g 2 8 < 10 ∧ k = g 2 8 → g 7 k = 0) ∧ (¬ (g 2 8 < 10 ∧ k = g 2 8) → g 7 k = g 7 k) := by
      intro k hk
      have m_93 : 0 ≤ (g 7 k) ∧ (g 7 k) ≤ 999 := I.1 7 k
      omega
    have z_96 : ∀ k : Int, 0 ≤ k ∧ k < 10 → (g 2 8 < 10 ∧ k = g 2 8 → g 8 k = 0) ∧ (¬ (g 2 8 < 10 ∧ k = g 2 8) → g 8 k = g 8 k) := by
      intro k hk
      have m_95 : 0 ≤ (g 8 k) ∧ (g 8 k) ≤ 20 := I.1 8 k
      omega
    exact hQ _ _ I (zk_f0 _) ⟨by omega, by omega⟩ (by omega) z_90 z_92 z_94 z_96
-- SpoutNews.spout(III)I
set_option maxRecDepth 100000 in
set_option maxHeartbeats 4000000 in
theorem k_S_spout {l1 : Int} {l2 : Int} {l3 : Int} {g : zi_M} {Q : Int → zi_M → Prop} (I : zk_I g) (p1 : (-2147483648) ≤ l1 ∧ l1 ≤ 2147483647) (p2 : (-2147483648) ≤ l2 ∧ l2 ≤ 2147483647) (p3 : (-2147483648) ≤ l3 ∧ l3 ≤ 2147483647) (hQ : ∀ (v : Int) (g' : zi_M), zk_I g' → zk_fr fr_S_spout g g' → ((-1) ≤ v ∧ v ≤ 9) → (0 ≤ l1 ∧ l1 ≤ 5 ∧ 0 ≤ l2 ∧ l2 ≤ 3 ∧ 0 ≤ l3 ∧ l3 ≤ 99 ∧ g 2 8 < 10 → v = g 2 8 ∧ g' 2 8 = g 2 8 + 1) → (¬ (0 ≤ l1 ∧ l1 ≤ 5 ∧ 0 ≤ l2 ∧ l2 ≤ 3 ∧ 0 ≤ l3 ∧ l3 ≤ 99 ∧ g 2 8 < 10) → v = -1 ∧ g' 2 8 = g 2 8) → (¬ v = -1 → g' 91 1 = 0) → (v = -1 → g' = g) → (∀ k : Int, 0 ≤ k ∧ k < 10 → (¬ v = -1 ∧ k = g 2 8 → g' 5 k = l3) ∧ (¬ (¬ v = -1 ∧ k = g 2 8) → g' 5 k = g 5 k)) → (∀ k : Int, 0 ≤ k ∧ k < 10 → (¬ v = -1 ∧ k = g 2 8 → g' 6 k = 0) ∧ (¬ (¬ v = -1 ∧ k = g 2 8) → g' 6 k = g 6 k)) → (∀ k : Int, 0 ≤ k ∧ k < 10 → (¬ v = -1 ∧ k = g 2 8 → g' 7 k = 0) ∧ (¬ (¬ v = -1 ∧ k = g 2 8) → g' 7 k = g 7 k)) → (∀ k : Int, 0 ≤ k ∧ k < 10 → (¬ v = -1 ∧ k = g 2 8 → g' 8 k = 0) ∧ (¬ (¬ v = -1 ∧ k = g 2 8) → g' 8 k = g 8 k)) → Q v g') : w_S_spout l1 l2 l3 g Q := by
  unfold w_S_spout
  refine ⟨⟨by omega, by omega⟩, ?_⟩
  refine ⟨fun c17 => ?_, fun c17 => ?_⟩
  · have m_1 : 0 ≤ (g 2 8) ∧ (g 2 8) ≤ 10 := I.1 2 8
    have m_2 : 0 ≤ (g 91 1) ∧ (g 91 1) ≤ 6 := I.1 91 1
    have z_4 : ∀ k : Int, 0 ≤ k ∧ k < 10 → (¬ ((-1) : Int) = -1 ∧ k = g 2 8 → g 5 k = l3) ∧ (¬ (¬ ((-1) : Int) = -1 ∧ k = g 2 8) → g 5 k = g 5 k) := by
      intro k hk
      have m_3 : 0 ≤ (g 5 k) ∧ (g 5 k) ≤ 99 := I.1 5 k
      omega
    have z_6 : ∀ k : Int, 0 ≤ k ∧ k < 10 → (¬ ((-1) : Int) = -1 ∧ k = g 2 8 → g 6 k = 0) ∧ (¬ (¬ ((-1) : Int) = -1 ∧ k = g 2 8) → g 6 k = g 6 k) := by
      intro k hk
      have m_5 : 0 ≤ (g 6 k) ∧ (g 6 k) ≤ 2 := I.1 6 k
      omega
    have z_8 : ∀ k : Int, 0 ≤ k ∧ k < 10 → (¬ ((-1) : Int) = -1 ∧ k = g 2 8 → g 7 k = 0) ∧ (¬ (¬ ((-1) : Int) = -1 ∧ k = g 2 8) → g 7 k = g 7 k) := by
      intro k hk
      have m_7 : 0 ≤ (g 7 k) ∧ (g 7 k) ≤ 999 := I.1 7 k
      omega
    have z_10 : ∀ k : Int, 0 ≤ k ∧ k < 10 → (¬ ((-1) : Int) = -1 ∧ k = g 2 8 → g 8 k = 0) ∧ (¬ (¬ ((-1) : Int) = -1 ∧ k = g 2 8) → g 8 k = g 8 k) := by
      intro k hk
      have m_9 : 0 ≤ (g 8 k) ∧ (g 8 k) ≤ 20 := I.1 8 k
      omega
    exact hQ _ _ I (zk_f0 _) ⟨by omega, by omega⟩ (by omega) (by omega) (by omega) (by intro hv; first | rfl | assumption | (exfalso; omega)) z_4 z_6 z_8 z_10
  · refine ⟨fun c16 => ?_, fun c16 => ?_⟩
    · have m_11 : 0 ≤ (g 2 8) ∧ (g 2 8) ≤ 10 := I.1 2 8
      have m_12 : 0 ≤ (g 91 1) ∧ (g 91 1) ≤ 6 := I.1 91 1
      have z_14 : ∀ k : Int, 0 ≤ k ∧ k < 10 → (¬ ((-1) : Int) = -1 ∧ k = g 2 8 → g 5 k = l3) ∧ (¬ (¬ ((-1) : Int) = -1 ∧ k = g 2 8) → g 5 k = g 5 k) := by
        intro k hk
        have m_13 : 0 ≤ (g 5 k) ∧ (g 5 k) ≤ 99 := I.1 5 k
        omega
      have z_16 : ∀ k : Int, 0 ≤ k ∧ k < 10 → (¬ ((-1) : Int) = -1 ∧ k = g 2 8 → g 6 k = 0) ∧ (¬ (¬ ((-1) : Int) = -1 ∧ k = g 2 8) → g 6 k = g 6 k) := by
        intro k hk
        have m_15 : 0 ≤ (g 6 k) ∧ (g 6 k) ≤ 2 := I.1 6 k
        omega
      have z_18 : ∀ k : Int, 0 ≤ k ∧ k < 10 → (¬ ((-1) : Int) = -1 ∧ k = g 2 8 → g 7 k = 0) ∧ (¬ (¬ ((-1) : Int) = -1 ∧ k = g 2 8) → g 7 k = g 7 k) := by
        intro k hk
        have m_17 : 0 ≤ (g 7 k) ∧ (g 7 k) ≤ 999 := I.1 7 k
        omega
      have z_20 : ∀ k : Int, 0 ≤ k ∧ k < 10 → (¬ ((-1) : Int) = -1 ∧ k = g 2 8 → g 8 k = 0) ∧ (¬ (¬ ((-1) : Int) = -1 ∧ k = g 2 8) → g 8 k = g 8 k) := by
        intro k hk
        have m_19 : 0 ≤ (g 8 k) ∧ (g 8 k) ≤ 20 := I.1 8 k
        omega
      exact hQ _ _ I (zk_f0 _) ⟨by omega, by omega⟩ (by omega) (by omega) (by omega) (by intro hv; first | rfl | assumption | (exfalso; omega)) z_14 z_16 z_18 z_20
    · refine ⟨⟨by omega, by omega⟩, ?_⟩
      refine ⟨fun c15 => ?_, fun c15 => ?_⟩
      · have m_21 : 0 ≤ (g 2 8) ∧ (g 2 8) ≤ 10 := I.1 2 8
        have m_22 : 0 ≤ (g 91 1) ∧ (g 91 1) ≤ 6 := I.1 91 1
        have z_24 : ∀ k : Int, 0 ≤ k ∧ k < 10 → (¬ ((-1) : Int) = -1 ∧ k = g 2 8 → g 5 k = l3) ∧ (¬ (¬ ((-1) : Int) = -1 ∧ k = g 2 8) → g 5 k = g 5 k) := by
          intro k hk
          have m_23 : 0 ≤ (g 5 k) ∧ (g 5 k) ≤ 99 := I.1 5 k
          omega
        have z_26 : ∀ k : Int, 0 ≤ k ∧ k < 10 → (¬ ((-1) : Int) = -1 ∧ k = g 2 8 → g 6 k = 0) ∧ (¬ (¬ ((-1) : Int) = -1 ∧ k = g 2 8) → g 6 k = g 6 k) := by
          intro k hk
          have m_25 : 0 ≤ (g 6 k) ∧ (g 6 k) ≤ 2 := I.1 6 k
          omega
        have z_28 : ∀ k : Int, 0 ≤ k ∧ k < 10 → (¬ ((-1) : Int) = -1 ∧ k = g 2 8 → g 7 k = 0) ∧ (¬ (¬ ((-1) : Int) = -1 ∧ k = g 2 8) → g 7 k = g 7 k) := by
          intro k hk
          have m_27 : 0 ≤ (g 7 k) ∧ (g 7 k) ≤ 999 := I.1 7 k
          omega
        have z_30 : ∀ k : Int, 0 ≤ k ∧ k < 10 → (¬ ((-1) : Int) = -1 ∧ k = g 2 8 → g 8 k = 0) ∧ (¬ (¬ ((-1) : Int) = -1 ∧ k = g 2 8) → g 8 k = g 8 k) := by
          intro k hk
          have m_29 : 0 ≤ (g 8 k) ∧ (g 8 k) ≤ 20 := I.1 8 k
          omega
        exact hQ _ _ I (zk_f0 _) ⟨by omega, by omega⟩ (by omega) (by omega) (by omega) (by intro hv; first | rfl | assumption | (exfalso; omega)) z_24 z_26 z_28 z_30
      · refine ⟨fun c14 => ?_, fun c14 => ?_⟩
        · have m_31 : 0 ≤ (g 2 8) ∧ (g 2 8) ≤ 10 := I.1 2 8
          have m_32 : 0 ≤ (g 91 1) ∧ (g 91 1) ≤ 6 := I.1 91 1
          have z_34 : ∀ k : Int, 0 ≤ k ∧ k < 10 → (¬ ((-1) : Int) = -1 ∧ k = g 2 8 → g 5 k = l3) ∧ (¬ (¬ ((-1) : Int) = -1 ∧ k = g 2 8) → g 5 k = g 5 k) := by
            intro k hk
            have m_33 : 0 ≤ (g 5 k) ∧ (g 5 k) ≤ 99 := I.1 5 k
            omega
          have z_36 : ∀ k : Int, 0 ≤ k ∧ k < 10 → (¬ ((-1) : Int) = -1 ∧ k = g 2 8 → g 6 k = 0) ∧ (¬ (¬ ((-1) : Int) = -1 ∧ k = g 2 8) → g 6 k = g 6 k) := by
            intro k hk
            have m_35 : 0 ≤ (g 6 k) ∧ (g 6 k) ≤ 2 := I.1 6 k
            omega
          have z_38 : ∀ k : Int, 0 ≤ k ∧ k < 10 → (¬ ((-1) : Int) = -1 ∧ k = g 2 8 → g 7 k = 0) ∧ (¬ (¬ ((-1) : Int) = -1 ∧ k = g 2 8) → g 7 k = g 7 k) := by
            intro k hk
            have m_37 : 0 ≤ (g 7 k) ∧ (g 7 k) ≤ 999 := I.1 7 k
            omega
          have z_40 : ∀ k : Int, 0 ≤ k ∧ k < 10 → (¬ ((-1) : Int) = -1 ∧ k = g 2 8 → g 8 k = 0) ∧ (¬ (¬ ((-1) : Int) = -1 ∧ k = g 2 8) → g 8 k = g 8 k) := by
            intro k hk
            have m_39 : 0 ≤ (g 8 k) ∧ (g 8 k) ≤ 20 := I.1 8 k
            omega
          exact hQ _ _ I (zk_f0 _) ⟨by omega, by omega⟩ (by omega) (by omega) (by omega) (by intro hv; first | rfl | assumption | (exfalso; omega)) z_34 z_36 z_38 z_40
        · refine ⟨⟨by omega, by omega⟩, ?_⟩
          refine ⟨fun c13 => ?_, fun c13 => ?_⟩
          · have m_41 : 0 ≤ (g 2 8) ∧ (g 2 8) ≤ 10 := I.1 2 8
            have m_42 : 0 ≤ (g 91 1) ∧ (g 91 1) ≤ 6 := I.1 91 1
            have z_44 : ∀ k : Int, 0 ≤ k ∧ k < 10 → (¬ ((-1) : Int) = -1 ∧ k = g 2 8 → g 5 k = l3) ∧ (¬ (¬ ((-1) : Int) = -1 ∧ k = g 2 8) → g 5 k = g 5 k) := by
              intro k hk
              have m_43 : 0 ≤ (g 5 k) ∧ (g 5 k) ≤ 99 := I.1 5 k
              omega
            have z_46 : ∀ k : Int, 0 ≤ k ∧ k < 10 → (¬ ((-1) : Int) = -1 ∧ k = g 2 8 → g 6 k = 0) ∧ (¬ (¬ ((-1) : Int) = -1 ∧ k = g 2 8) → g 6 k = g 6 k) := by
              intro k hk
              have m_45 : 0 ≤ (g 6 k) ∧ (g 6 k) ≤ 2 := I.1 6 k
              omega
            have z_48 : ∀ k : Int, 0 ≤ k ∧ k < 10 → (¬ ((-1) : Int) = -1 ∧ k = g 2 8 → g 7 k = 0) ∧ (¬ (¬ ((-1) : Int) = -1 ∧ k = g 2 8) → g 7 k = g 7 k) := by
              intro k hk
              have m_47 : 0 ≤ (g 7 k) ∧ (g 7 k) ≤ 999 := I.1 7 k
              omega
            have z_50 : ∀ k : Int, 0 ≤ k ∧ k < 10 → (¬ ((-1) : Int) = -1 ∧ k = g 2 8 → g 8 k = 0) ∧ (¬ (¬ ((-1) : Int) = -1 ∧ k = g 2 8) → g 8 k = g 8 k) := by
              intro k hk
              have m_49 : 0 ≤ (g 8 k) ∧ (g 8 k) ≤ 20 := I.1 8 k
              omega
            exact hQ _ _ I (zk_f0 _) ⟨by omega, by omega⟩ (by omega) (by omega) (by omega) (by intro hv; first | rfl | assumption | (exfalso; omega)) z_44 z_46 z_48 z_50
          · refine ⟨fun c12 => ?_, fun c12 => ?_⟩
            · have m_51 : 0 ≤ (g 2 8) ∧ (g 2 8) ≤ 10 := I.1 2 8
              refine ⟨⟨by omega, by omega⟩, ?_⟩
              refine ⟨fun c11 => ?_, fun c11 => ?_⟩
              · refine k_Past_forget I (fun g6 I_53 F_54 b_52 => ?_)
                have F_55 : zk_fr fr_S_spout g g6 := zk_ft (zk_f0 _) F_54 (fun a i => (fun h => (Or.inr (Or.inr (Or.inr (Or.inr (Or.inr (Or.inr (Or.inr h)))))))))
                have m_56 : 0 ≤ (g6 2 8) ∧ (g6 2 8) ≤ 10 := I_53.1 2 8
                have m_57 : g6 2 8 = g 2 8 := F_54 _ _ (by unfold fr_Past_forget; omega)
                refine k_World_addSpout I_53 ⟨by omega, by omega⟩ ⟨by omega, by omega⟩ ⟨by omega, by omega⟩ (fun v8 g9 I_64 F_65 b_58 b_59 b_60 b_61 b_62 b_63 => ?_)
                have F_66 : zk_fr fr_S_spout g g9 := zk_ft F_55 F_65 (fun a i => (fun h => Or.elim h (fun h => (Or.inl h)) (fun h => Or.elim h (fun h => (Or.inr (Or.inl h))) (fun h => Or.elim h (fun h => (Or.inr (Or.inr (Or.inl h)))) (fun h => Or.elim h (fun h => (Or.inr (Or.inr (Or.inr (Or.inl h))))) (fun h => Or.elim h (fun h => (Or.inr (Or.inr (Or.inr (Or.inr (Or.inl h)))))) (fun h => Or.elim h (fun h => (Or.inr (Or.inr (Or.inr (Or.inr (Or.inr (Or.inl h))))))) (fun h => (Or.inr (Or.inr (Or.inr (Or.inr (Or.inr (Or.inr (Or.inl h)))))))))))))))
                have m_67 : 0 ≤ (g9 2 8) ∧ (g9 2 8) ≤ 10 := I_64.1 2 8
                have m_68 : 0 ≤ (g9 91 1) ∧ (g9 91 1) ≤ 6 := I_64.1 91 1
                have m_69 : g9 91 1 = g6 91 1 := F_65 _ _ (by unfold fr_World_addSpout; omega)
                have m_70 : 0 ≤ (g6 91 1) ∧ (g6 91 1) ≤ 6 := I_53.1 91 1
                have z_76 : ∀ k : Int, 0 ≤ k ∧ k < 10 → (¬ (v8 : Int) = -1 ∧ k = g 2 8 → g9 5 k = l3) ∧ (¬ (¬ (v8 : Int) = -1 ∧ k = g 2 8) → g9 5 k = g 5 k) := by
                  intro k hk
                  have m_71 : 0 ≤ (g9 5 k) ∧ (g9 5 k) ≤ 99 := I_64.1 5 k
                  have m_72 := b_60 k hk
                  have m_73 : 0 ≤ (g6 5 k) ∧ (g6 5 k) ≤ 99 := I_53.1 5 k
                  have m_74 : g6 5 k = g 5 k := F_54 _ _ (by unfold fr_Past_forget; omega)
                  have m_75 : 0 ≤ (g 5 k) ∧ (g 5 k) ≤ 99 := I.1 5 k
                  omega
                have z_82 : ∀ k : Int, 0 ≤ k ∧ k < 10 → (¬ (v8 : Int) = -1 ∧ k = g 2 8 → g9 6 k = 0) ∧ (¬ (¬ (v8 : Int) = -1 ∧ k = g 2 8) → g9 6 k = g 6 k) := by
                  intro k hk
                  have m_77 : 0 ≤ (g9 6 k) ∧ (g9 6 k) ≤ 2 := I_64.1 6 k
                  have m_78 := b_61 k hk
                  have m_79 : 0 ≤ (g6 6 k) ∧ (g6 6 k) ≤ 2 := I_53.1 6 k
                  have m_80 : g6 6 k = g 6 k := F_54 _ _ (by unfold fr_Past_forget; omega)
                  have m_81 : 0 ≤ (g 6 k) ∧ (g 6 k) ≤ 2 := I.1 6 k
                  omega
                have z_88 : ∀ k : Int, 0 ≤ k ∧ k < 10 → (¬ (v8 : Int) = -1 ∧ k = g 2 8 → g9 7 k = 0) ∧ (¬ (¬ (v8 : Int) = -1 ∧ k = g 2 8) → g9 7 k = g 7 k) := by
                  intro k hk
                  have m_83 : 0 ≤ (g9 7 k) ∧ (g9 7 k) ≤ 999 := I_64.1 7 k
                  have m_84 := b_62 k hk
                  have m_85 : 0 ≤ (g6 7 k) ∧ (g6 7 k) ≤ 999 := I_53.1 7 k
                  have m_86 : g6 7 k = g 7 k := F_54 _ _ (by unfold fr_Past_forget; omega)
                  have m_87 : 0 ≤ (g 7 k) ∧ (g 7 k) ≤ 999 := I.1 7 k
                  omega
                have z_94 : ∀ k : Int, 0 ≤ k ∧ k < 10 → (¬ (v8 : Int) = -1 ∧ k = g 2 8 → g9 8 k = 0) ∧ (¬ (¬ (v8 : Int) = -1 ∧ k = g 2 8) → g9 8 k = g 8 k) := by
                  intro k hk
                  have m_89 : 0 ≤ (g9 8 k) ∧ (g9 8 k) ≤ 20 := I_64.1 8 k
                  have m_90 := b_63 k hk
                  have m_91 : 0 ≤ (g6 8 k) ∧ (g6 8 k) ≤ 20 := I_53.1 8 k
                  have m_92 : g6 8 k = g 8 k := F_54 _ _ (by unfold fr_Past_forget; omega)
                  have m_93 : 0 ≤ (g 8 k) ∧ (g 8 k) ≤ 20 := I.1 8 k
                  omega
                exact hQ _ _ I_64 F_66 ⟨by omega, by omega⟩ (by omega) (by omega) (by omega) (by intro hv; first | rfl | assumption | (exfalso; omega)) z_76 z_82 z_88 z_94
              · have m_95 : 0 ≤ (g 91 1) ∧ (g 91 1) ≤ 6 := I.1 91 1
                have z_97 : ∀ k : Int, 0 ≤ k ∧ k < 10 → (¬ ((-1) : Int) = -1 ∧ k = g 2 8 → g 5 k = l3) ∧ (¬ (¬ ((-1) : Int) = -1 ∧ k = g 2 8) → g 5 k = g 5 k) := by
                  intro k hk
                  have m_96 : 0 ≤ (g 5 k) ∧ (g 5 k) ≤ 99 := I.1 5 k
                  omega
                have z_99 : ∀ k : Int, 0 ≤ k ∧ k < 10 → (¬ ((-1) : Int) = -1 ∧ k = g 2 8 → g 6 k = 0) ∧ (¬ (¬ ((-1) : Int) = -1 ∧ k = g 2 8) → g 6 k = g 6 k) := by
                  intro k hk
                  have m_98 : 0 ≤ (g 6 k) ∧ (g 6 k) ≤ 2 := I.1 6 k
                  omega
                have z_101 : ∀ k : Int, 0 ≤ k ∧ k < 10 → (¬ ((-1) : Int) = -1 ∧ k = g 2 8 → g 7 k = 0) ∧ (¬ (¬ ((-1) : Int) = -1 ∧ k = g 2 8) → g 7 k = g 7 k) := by
                  intro k hk
                  have m_100 : 0 ≤ (g 7 k) ∧ (g 7 k) ≤ 999 := I.1 7 k
                  omega
                have z_103 : ∀ k : Int, 0 ≤ k ∧ k < 10 → (¬ ((-1) : Int) = -1 ∧ k = g 2 8 → g 8 k = 0) ∧ (¬ (¬ ((-1) : Int) = -1 ∧ k = g 2 8) → g 8 k = g 8 k) := by
                  intro k hk
                  have m_102 : 0 ≤ (g 8 k) ∧ (g 8 k) ≤ 20 := I.1 8 k
                  omega
                exact hQ _ _ I (zk_f0 _) ⟨by omega, by omega⟩ (by omega) (by omega) (by omega) (by intro hv; first | rfl | assumption | (exfalso; omega)) z_97 z_99 z_101 z_103
            · have m_104 : 0 ≤ (g 2 8) ∧ (g 2 8) ≤ 10 := I.1 2 8
              have m_105 : 0 ≤ (g 91 1) ∧ (g 91 1) ≤ 6 := I.1 91 1
              have z_107 : ∀ k : Int, 0 ≤ k ∧ k < 10 → (¬ ((-1) : Int) = -1 ∧ k = g 2 8 → g 5 k = l3) ∧ (¬ (¬ ((-1) : Int) = -1 ∧ k = g 2 8) → g 5 k = g 5 k) := by
                intro k hk
                have m_106 : 0 ≤ (g 5 k) ∧ (g 5 k) ≤ 99 := I.1 5 k
                omega
              have z_109 : ∀ k : Int, 0 ≤ k ∧ k < 10 → (¬ ((-1) : Int) = -1 ∧ k = g 2 8 → g 6 k = 0) ∧ (¬ (¬ ((-1) : Int) = -1 ∧ k = g 2 8) → g 6 k = g 6 k) := by
                intro k hk
                have m_108 : 0 ≤ (g 6 k) ∧ (g 6 k) ≤ 2 := I.1 6 k
                omega
              have z_111 : ∀ k : Int, 0 ≤ k ∧ k < 10 → (¬ ((-1) : Int) = -1 ∧ k = g 2 8 → g 7 k = 0) ∧ (¬ (¬ ((-1) : Int) = -1 ∧ k = g 2 8) → g 7 k = g 7 k) := by
                intro k hk
                have m_110 : 0 ≤ (g 7 k) ∧ (g 7 k) ≤ 999 := I.1 7 k
                omega
              have z_113 : ∀ k : Int, 0 ≤ k ∧ k < 10 → (¬ ((-1) : Int) = -1 ∧ k = g 2 8 → g 8 k = 0) ∧ (¬ (¬ ((-1) : Int) = -1 ∧ k = g 2 8) → g 8 k = g 8 k) := by
                intro k hk
                have m_112 : 0 ≤ (g 8 k) ∧ (g 8 k) ≤ 20 := I.1 8 k
                omega
              exact hQ _ _ I (zk_f0 _) ⟨by omega, by omega⟩ (by omega) (by omega) (by omega) (by intro hv; first | rfl | assumption | (exfalso; omega)) z_107 z_109 z_111 z_113
-- SpoutNewsModel.isIn(III)Z
set_option maxRecDepth 100000 in
set_option maxHeartbeats 4000000 in
theorem k_M_isIn {l1 : Int} {l2 : Int} {l3 : Int} {g : zi_M} {Q : Int → zi_M → Prop} (I : zk_I g) (p1 : (-2147483648) ≤ l1 ∧ l1 ≤ 2147483647) (p2 : (-2147483648) ≤ l2 ∧ l2 ≤ 2147483647) (p3 : (-2147483648) ≤ l3 ∧ l3 ≤ 2147483647) (hQ : ∀ v : Int, (l1 < l2 → v = 0) → (l2 ≤ l1 → l3 < l1 → v = 0) → (l2 ≤ l1 → l1 ≤ l3 → v = 1) → Q v g) : w_M_isIn l1 l2 l3 g Q := by
  unfold w_M_isIn
  refine ⟨⟨by omega, by omega⟩, ⟨by omega, by omega⟩, ?_⟩
  refine ⟨fun c5 => ?_, fun c5 => ?_⟩
  · exact hQ _ (by intros; omega) (by intros; omega) (by intros; omega)
  · refine ⟨⟨by omega, by omega⟩, ?_⟩
    refine ⟨fun c4 => ?_, fun c4 => ?_⟩
    · exact hQ _ (by intros; omega) (by intros; omega) (by intros; omega)
    · exact hQ _ (by intros; omega) (by intros; omega) (by intros; omega)
-- SpoutNewsModel.spout(III)I
set_option maxRecDepth 100000 in
set_option maxHeartbeats 4000000 in
theorem k_M_spout {l1 : Int} {l2 : Int} {l3 : Int} {g : zi_M} {Q : Int → zi_M → Prop} (I : zk_I g) (p1 : (-2147483648) ≤ l1 ∧ l1 ≤ 2147483647) (p2 : (-2147483648) ≤ l2 ∧ l2 ≤ 2147483647) (p3 : (-2147483648) ≤ l3 ∧ l3 ≤ 2147483647) (hQ : ∀ (v : Int) (g' : zi_M), zk_I g' → zk_fr fr_M_spout g g' → ((-1) ≤ v ∧ v ≤ 9) → (0 ≤ l1 ∧ l1 ≤ 5 ∧ 0 ≤ l2 ∧ l2 ≤ 3 ∧ 0 ≤ l3 ∧ l3 ≤ 99 ∧ g 214 6 < 10 → v = g 214 6 ∧ g' 214 6 = g 214 6 + 1) → (¬ (0 ≤ l1 ∧ l1 ≤ 5 ∧ 0 ≤ l2 ∧ l2 ≤ 3 ∧ 0 ≤ l3 ∧ l3 ≤ 99 ∧ g 214 6 < 10) → v = -1 ∧ g' 214 6 = g 214 6) → (∀ k : Int, 0 ≤ k ∧ k < 10 → (¬ v = -1 ∧ k = g 214 6 → g' 220 k = l3) ∧ (¬ (¬ v = -1 ∧ k = g 214 6) → g' 220 k = g 220 k)) → (∀ k : Int, 0 ≤ k ∧ k < 264 → (¬ v = -1 ∧ k = 6 + g 214 6 → g' 215 k = 0) ∧ (¬ v = -1 ∧ k = 16 + g 214 6 → g' 215 k = 0) ∧ (¬ v = -1 ∧ k = 26 + g 214 6 → g' 215 k = 0) ∧ (¬ (¬ v = -1 ∧ (k = 6 + g 214 6 ∨ k = 16 + g 214 6 ∨ k = 26 + g 214 6)) → g' 215 k = g 215 k)) → (¬ v = -1 → g' 214 3 = 0) → (v = -1 → g' 214 3 = g 214 3) → Q v g') : w_M_spout l1 l2 l3 g Q := by
  unfold w_M_spout
  intro g1 e_1
  have I_2 : zk_I g1 := by rw [e_1]; exact zk_upd (L := (-2147483648)) (H := 2147483647) rfl rfl I ⟨by omega, by omega⟩
  have F_3 : zk_fr fr_M_spout g g1 := by rw [e_1]; exact zk_fu (zk_f0 _) (Or.inr (Or.inr (Or.inr (Or.inl ⟨rfl, rfl⟩))))
  refine k_M_isIn I_2 ⟨by omega, by omega⟩ ⟨by omega, by omega⟩ ⟨by omega, by omega⟩ (fun v2 b_4 b_5 b_6 => ?_)
  refine ⟨fun c29 => ?_, fun c29 => ?_⟩
  · have m_7 : 0 ≤ (g1 214 6) ∧ (g1 214 6) ≤ 10 := I_2.1 214 6
    have m_8 : g1 214 6 = g 214 6 := by rw [e_1]; exact zi_u_ni (by decide)
    have m_9 : 0 ≤ (g 214 6) ∧ (g 214 6) ≤ 10 := I.1 214 6
    have z_13 : ∀ k : Int, 0 ≤ k ∧ k < 10 → (¬ ((-1) : Int) = -1 ∧ k = g 214 6 → g1 220 k = l3) ∧ (¬ (¬ ((-1) : Int) = -1 ∧ k = g 214 6) → g1 220 k = g 220 k) := by
      intro k hk
      have m_10 : 0 ≤ (g1 220 k) ∧ (g1 220 k) ≤ 99 := I_2.1 220 k
      have m_11 : g1 220 k = g 220 k := by rw [e_1]; exact zi_u_ne (by decide)
      have m_12 : 0 ≤ (g 220 k) ∧ (g 220 k) ≤ 99 := I.1 220 k
      omega
    have z_17 : ∀ k : Int, 0 ≤ k ∧ k < 264 → (¬ ((-1) : Int) = -1 ∧ k = 6 + g 214 6 → g1 215 k = 0) ∧ (¬ ((-1) : Int) = -1 ∧ k = 16 + g 214 6 → g1 215 k = 0) ∧ (¬ ((-1) : Int) = -1 ∧ k = 26 + g 214 6 → g1 215 k = 0) ∧ (¬ (¬ ((-1) : Int) = -1 ∧ (k = 6 + g 214 6 ∨ k = 16 + g 214 6 ∨ k = 26 + g 214 6)) → g1 215 k = g 215 k) := by
      intro k hk
      have m_14 := zk_rng I_2 215 k
      have m_15 : g1 215 k = g 215 k := by rw [e_1]; exact zi_u_ne (by decide)
      have m_16 := zk_rng I 215 k
      omega
    have m_18 : 0 ≤ (g1 214 3) ∧ (g1 214 3) ≤ 6 := I_2.1 214 3
    have m_19 : g1 214 3 = g 214 3 := by rw [e_1]; exact zi_u_ni (by decide)
    have m_20 : 0 ≤ (g 214 3) ∧ (g 214 3) ≤ 6 := I.1 214 3
    exact hQ _ _ I_2 F_3 ⟨by omega, by omega⟩ (by omega) (by omega) z_13 z_17 (by omega) (by omega)
  · refine k_M_isIn I_2 ⟨by omega, by omega⟩ ⟨by omega, by omega⟩ ⟨by omega, by omega⟩ (fun v5 b_21 b_22 b_23 => ?_)
    refine ⟨fun c28 => ?_, fun c28 => ?_⟩
    · have m_24 : 0 ≤ (g1 214 6) ∧ (g1 214 6) ≤ 10 := I_2.1 214 6
      have m_25 : g1 214 6 = g 214 6 := by rw [e_1]; exact zi_u_ni (by decide)
      have m_26 : 0 ≤ (g 214 6) ∧ (g 214 6) ≤ 10 := I.1 214 6
      have z_30 : ∀ k : Int, 0 ≤ k ∧ k < 10 → (¬ ((-1) : Int) = -1 ∧ k = g 214 6 → g1 220 k = l3) ∧ (¬ (¬ ((-1) : Int) = -1 ∧ k = g 214 6) → g1 220 k = g 220 k) := by
        intro k hk
        have m_27 : 0 ≤ (g1 220 k) ∧ (g1 220 k) ≤ 99 := I_2.1 220 k
        have m_28 : g1 220 k = g 220 k := by rw [e_1]; exact zi_u_ne (by decide)
        have m_29 : 0 ≤ (g 220 k) ∧ (g 220 k) ≤ 99 := I.1 220 k
        omega
      have z_34 : ∀ k : Int, 0 ≤ k ∧ k < 264 → (¬ ((-1) : Int) = -1 ∧ k = 6 + g 214 6 → g1 215 k = 0) ∧ (¬ ((-1) : Int) = -1 ∧ k = 16 + g 214 6 → g1 215 k = 0) ∧ (¬ ((-1) : Int) = -1 ∧ k = 26 + g 214 6 → g1 215 k = 0) ∧ (¬ (¬ ((-1) : Int) = -1 ∧ (k = 6 + g 214 6 ∨ k = 16 + g 214 6 ∨ k = 26 + g 214 6)) → g1 215 k = g 215 k) := by
        intro k hk
        have m_31 := zk_rng I_2 215 k
        have m_32 : g1 215 k = g 215 k := by rw [e_1]; exact zi_u_ne (by decide)
        have m_33 := zk_rng I 215 k
        omega
      have m_35 : 0 ≤ (g1 214 3) ∧ (g1 214 3) ≤ 6 := I_2.1 214 3
      have m_36 : g1 214 3 = g 214 3 := by rw [e_1]; exact zi_u_ni (by decide)
      have m_37 : 0 ≤ (g 214 3) ∧ (g 214 3) ≤ 6 := I.1 214 3
      exact hQ _ _ I_2 F_3 ⟨by omega, by omega⟩ (by omega) (by omega) z_30 z_34 (by omega) (by omega)
    · refine k_M_isIn I_2 ⟨by omega, by omega⟩ ⟨by omega, by omega⟩ ⟨by omega, by omega⟩ (fun v8 b_38 b_39 b_40 => ?_)
      refine ⟨fun c27 => ?_, fun c27 => ?_⟩
      · have m_41 : 0 ≤ (g1 214 6) ∧ (g1 214 6) ≤ 10 := I_2.1 214 6
        have m_42 : g1 214 6 = g 214 6 := by rw [e_1]; exact zi_u_ni (by decide)
        have m_43 : 0 ≤ (g 214 6) ∧ (g 214 6) ≤ 10 := I.1 214 6
        have z_47 : ∀ k : Int, 0 ≤ k ∧ k < 10 → (¬ ((-1) : Int) = -1 ∧ k = g 214 6 → g1 220 k = l3) ∧ (¬ (¬ ((-1) : Int) = -1 ∧ k = g 214 6) → g1 220 k = g 220 k) := by
          intro k hk
          have m_44 : 0 ≤ (g1 220 k) ∧ (g1 220 k) ≤ 99 := I_2.1 220 k
          have m_45 : g1 220 k = g 220 k := by rw [e_1]; exact zi_u_ne (by decide)
          have m_46 : 0 ≤ (g 220 k) ∧ (g 220 k) ≤ 99 := I.1 220 k
          omega
        have z_51 : ∀ k : Int, 0 ≤ k ∧ k < 264 → (¬ ((-1) : Int) = -1 ∧ k = 6 + g 214 6 → g1 215 k = 0) ∧ (¬ ((-1) : Int) = -1 ∧ k = 16 + g 214 6 → g1 215 k = 0) ∧ (¬ ((-1) : Int) = -1 ∧ k = 26 + g 214 6 → g1 215 k = 0) ∧ (¬ (¬ ((-1) : Int) = -1 ∧ (k = 6 + g 214 6 ∨ k = 16 + g 214 6 ∨ k = 26 + g 214 6)) → g1 215 k = g 215 k) := by
          intro k hk
          have m_48 := zk_rng I_2 215 k
          have m_49 : g1 215 k = g 215 k := by rw [e_1]; exact zi_u_ne (by decide)
          have m_50 := zk_rng I 215 k
          omega
        have m_52 : 0 ≤ (g1 214 3) ∧ (g1 214 3) ≤ 6 := I_2.1 214 3
        have m_53 : g1 214 3 = g 214 3 := by rw [e_1]; exact zi_u_ni (by decide)
        have m_54 : 0 ≤ (g 214 3) ∧ (g 214 3) ≤ 6 := I.1 214 3
        exact hQ _ _ I_2 F_3 ⟨by omega, by omega⟩ (by omega) (by omega) z_47 z_51 (by omega) (by omega)
      · have m_55 : 0 ≤ (g1 214 6) ∧ (g1 214 6) ≤ 10 := I_2.1 214 6
        have m_56 : g1 214 6 = g 214 6 := by rw [e_1]; exact zi_u_ni (by decide)
        have m_57 : 0 ≤ (g 214 6) ∧ (g 214 6) ≤ 10 := I.1 214 6
        refine ⟨⟨by omega, by omega⟩, ?_⟩
        refine ⟨fun c26 => ?_, fun c26 => ?_⟩
        · refine ⟨⟨by omega, by omega⟩, ?_⟩
          intro g13 e_58
          have I_59 : zk_I g13 := by rw [e_58]; exact zk_upd (L := 0) (H := 5) rfl rfl I_2 ⟨by omega, by omega⟩
          have F_60 : zk_fr fr_M_spout g g13 := by rw [e_58]; exact zk_fu F_3 (Or.inl rfl)
          have m_64 : 0 ≤ (g13 214 6) ∧ (g13 214 6) ≤ 10 := I_59.1 214 6
          have m_65 : g13 214 6 = g1 214 6 := by rw [e_58]; exact zi_u_ne (by decide)
          refine ⟨⟨by omega, by omega⟩, ?_⟩
          intro g15 e_61
          have I_62 : zk_I g15 := by rw [e_61]; exact zk_upd (L := 0) (H := 3) rfl rfl I_59 ⟨by omega, by omega⟩
          have F_63 : zk_fr fr_M_spout g g15 := by rw [e_61]; exact zk_fu F_60 (Or.inr (Or.inl rfl))
          have m_69 : 0 ≤ (g15 214 6) ∧ (g15 214 6) ≤ 10 := I_62.1 214 6
          have m_70 : g15 214 6 = g13 214 6 := by rw [e_61]; exact zi_u_ne (by decide)
          refine ⟨⟨by omega, by omega⟩, ?_⟩
          intro g17 e_66
          have I_67 : zk_I g17 := by rw [e_66]; exact zk_upd (L := 0) (H := 99) rfl rfl I_62 ⟨by omega, by omega⟩
          have F_68 : zk_fr fr_M_spout g g17 := by rw [e_66]; exact zk_fu F_63 (Or.inr (Or.inr (Or.inl rfl)))
          have m_74 : 0 ≤ (g17 214 6) ∧ (g17 214 6) ≤ 10 := I_67.1 214 6
          have m_75 : g17 214 6 = g15 214 6 := by rw [e_66]; exact zi_u_ne (by decide)
          refine ⟨⟨by omega, by omega⟩, ?_⟩
          intro g19 e_71
          have I_72 : zk_I g19 := by rw [e_71]; exact zk_upd (zk_nl6 (i := 6 + (g17 214 6)) (by omega)).1 (zk_nl6 (i := 6 + (g17 214 6)) (by omega)).2 I_67 ⟨by omega, by omega⟩
          have F_73 : zk_fr fr_M_spout g g19 := by rw [e_71]; exact zk_fu F_68 (Or.inr (Or.inr (Or.inr (Or.inr (Or.inr (Or.inr (Or.inr (Or.inr ⟨rfl, by omega, by omega⟩))))))))
          have m_79 : 0 ≤ (g19 214 6) ∧ (g19 214 6) ≤ 10 := I_72.1 214 6
          have m_80 : g19 214 6 = g17 214 6 := by rw [e_71]; exact zi_u_ne (by decide)
          refine ⟨⟨by omega, by omega⟩, ?_⟩
          intro g21 e_76
          have I_77 : zk_I g21 := by rw [e_76]; exact zk_upd (zk_nl16 (i := 16 + (g19 214 6)) (by omega)).1 (zk_nl16 (i := 16 + (g19 214 6)) (by omega)).2 I_72 ⟨by omega, by omega⟩
          have F_78 : zk_fr fr_M_spout g g21 := by rw [e_76]; exact zk_fu F_73 (Or.inr (Or.inr (Or.inr (Or.inr (Or.inr (Or.inr (Or.inl ⟨rfl, by omega, by omega⟩)))))))
          have m_84 : 0 ≤ (g21 214 6) ∧ (g21 214 6) ≤ 10 := I_77.1 214 6
          have m_85 : g21 214 6 = g19 214 6 := by rw [e_76]; exact zi_u_ne (by decide)
          refine ⟨⟨by omega, by omega⟩, ?_⟩
          intro g23 e_81
          have I_82 : zk_I g23 := by rw [e_81]; exact zk_upd (zk_nl26 (i := 26 + (g21 214 6)) (by omega)).1 (zk_nl26 (i := 26 + (g21 214 6)) (by omega)).2 I_77 ⟨by omega, by omega⟩
          have F_83 : zk_fr fr_M_spout g g23 := by rw [e_81]; exact zk_fu F_78 (Or.inr (Or.inr (Or.inr (Or.inr (Or.inr (Or.inr (Or.inr (Or.inl ⟨rfl, by omega, by omega⟩))))))))
          have m_89 : 0 ≤ (g23 214 6) ∧ (g23 214 6) ≤ 10 := I_82.1 214 6
          have m_90 : g23 214 6 = g21 214 6 := by rw [e_81]; exact zi_u_ne (by decide)
          intro g24 e_86
          have I_87 : zk_I g24 := by rw [e_86]; exact zk_upd (L := 0) (H := 10) rfl rfl I_82 ⟨by omega, by omega⟩
          have F_88 : zk_fr fr_M_spout g g24 := by rw [e_86]; exact zk_fu F_83 (Or.inr (Or.inr (Or.inr (Or.inr (Or.inr (Or.inl ⟨rfl, rfl⟩))))))
          intro g25 e_91
          have I_92 : zk_I g25 := by rw [e_91]; exact zk_upd (L := 0) (H := 6) rfl rfl I_87 ⟨by omega, by omega⟩
          have F_93 : zk_fr fr_M_spout g g25 := by rw [e_91]; exact zk_fu F_88 (Or.inr (Or.inr (Or.inr (Or.inr (Or.inl ⟨rfl, rfl⟩)))))
          have m_94 : 0 ≤ (g25 214 6) ∧ (g25 214 6) ≤ 10 := I_92.1 214 6
          have m_95 : g25 214 6 = g24 214 6 := by rw [e_91]; exact zi_u_ni (by decide)
          have m_96 : 0 ≤ (g24 214 6) ∧ (g24 214 6) ≤ 10 := I_87.1 214 6
          have m_97 : g24 214 6 = (g23 214 6) + 1 := by rw [e_86]; exact zi_u_eq
          have z_117 : ∀ k : Int, 0 ≤ k ∧ k < 10 → (¬ ((g25 214 6) - 1 : Int) = -1 ∧ k = g 214 6 → g25 220 k = l3) ∧ (¬ (¬ ((g25 214 6) - 1 : Int) = -1 ∧ k = g 214 6) → g25 220 k = g 220 k) := by
            intro k hk
            have m_98 : 0 ≤ (g25 220 k) ∧ (g25 220 k) ≤ 99 := I_92.1 220 k
            have m_99 : g25 220 k = g24 220 k := by rw [e_91]; exact zi_u_ne (by decide)
            have m_100 : 0 ≤ (g24 220 k) ∧ (g24 220 k) ≤ 99 := I_87.1 220 k
            have m_101 : g24 220 k = g23 220 k := by rw [e_86]; exact zi_u_ne (by decide)
            have m_102 : 0 ≤ (g23 220 k) ∧ (g23 220 k) ≤ 99 := I_82.1 220 k
            have m_103 : g23 220 k = g21 220 k := by rw [e_81]; exact zi_u_ne (by decide)
            have m_104 : 0 ≤ (g21 220 k) ∧ (g21 220 k) ≤ 99 := I_77.1 220 k
            have m_105 : g21 220 k = g19 220 k := by rw [e_76]; exact zi_u_ne (by decide)
            have m_106 : 0 ≤ (g19 220 k) ∧ (g19 220 k) ≤ 99 := I_72.1 220 k
            have m_107 : g19 220 k = g17 220 k := by rw [e_71]; exact zi_u_ne (by decide)
            have m_108 : 0 ≤ (g17 220 k) ∧ (g17 220 k) ≤ 99 := I_67.1 220 k
            have m_109 : 0 ≤ (g15 220 k) ∧ (g15 220 k) ≤ 99 := I_62.1 220 k
            have m_110 : g15 220 k = g13 220 k := by rw [e_61]; exact zi_u_ne (by decide)
            have m_111 : 0 ≤ (g13 220 k) ∧ (g13 220 k) ≤ 99 := I_59.1 220 k
            have m_112 : g13 220 k = g1 220 k := by rw [e_58]; exact zi_u_ne (by decide)
            have m_113 : 0 ≤ (g1 220 k) ∧ (g1 220 k) ≤ 99 := I_2.1 220 k
            have m_114 : g1 220 k = g 220 k := by rw [e_1]; exact zi_u_ne (by decide)
            have m_115 : 0 ≤ (g 220 k) ∧ (g 220 k) ≤ 99 := I.1 220 k
            have m_116 : (k = g15 214 6 → g17 220 k = l3) ∧ (¬ k = g15 214 6 → g17 220 k = g15 220 k) := by rw [e_66]; exact zi_u_if
            omega
          have z_137 : ∀ k : Int, 0 ≤ k ∧ k < 264 → (¬ ((g25 214 6) - 1 : Int) = -1 ∧ k = 6 + g 214 6 → g25 215 k = 0) ∧ (¬ ((g25 214 6) - 1 : Int) = -1 ∧ k = 16 + g 214 6 → g25 215 k = 0) ∧ (¬ ((g25 214 6) - 1 : Int) = -1 ∧ k = 26 + g 214 6 → g25 215 k = 0) ∧ (¬ (¬ ((g25 214 6) - 1 : Int) = -1 ∧ (k = 6 + g 214 6 ∨ k = 16 + g 214 6 ∨ k = 26 + g 214 6)) → g25 215 k = g 215 k) := by
            intro k hk
            have m_118 := zk_rng I_92 215 k
            have m_119 : g25 215 k = g24 215 k := by rw [e_91]; exact zi_u_ne (by decide)
            have m_120 := zk_rng I_87 215 k
            have m_121 : g24 215 k = g23 215 k := by rw [e_86]; exact zi_u_ne (by decide)
            have m_122 := zk_rng I_82 215 k
            have m_123 := zk_rng I_77 215 k
            have m_124 := zk_rng I_72 215 k
            have m_125 := zk_rng I_67 215 k
            have m_126 : g17 215 k = g15 215 k := by rw [e_66]; exact zi_u_ne (by decide)
            have m_127 := zk_rng I_62 215 k
            have m_128 : g15 215 k = g13 215 k := by rw [e_61]; exact zi_u_ne (by decide)
            have m_129 := zk_rng I_59 215 k
            have m_130 : g13 215 k = g1 215 k := by rw [e_58]; exact zi_u_ne (by decide)
            have m_131 := zk_rng I_2 215 k
            have m_132 : g1 215 k = g 215 k := by rw [e_1]; exact zi_u_ne (by decide)
            have m_133 := zk_rng I 215 k
            have m_134 : (k = 6 + (g17 214 6) → g19 215 k = 0) ∧ (¬ k = 6 + (g17 214 6) → g19 215 k = g17 215 k) := by rw [e_71]; exact zi_u_if
            have m_135 : (k = 16 + (g19 214 6) → g21 215 k = 0) ∧ (¬ k = 16 + (g19 214 6) → g21 215 k = g19 215 k) := by rw [e_76]; exact zi_u_if
            have m_136 : (k = 26 + (g21 214 6) → g23 215 k = 0) ∧ (¬ k = 26 + (g21 214 6) → g23 215 k = g21 215 k) := by rw [e_81]; exact zi_u_if
            omega
          have m_138 : 0 ≤ (g25 214 3) ∧ (g25 214 3) ≤ 6 := I_92.1 214 3
          have m_139 : g25 214 3 = 0 := by rw [e_91]; exact zi_u_eq
          exact hQ _ _ I_92 F_93 ⟨by omega, by omega⟩ (by omega) (by omega) z_117 z_137 (by omega) (by omega)
        · have z_143 : ∀ k : Int, 0 ≤ k ∧ k < 10 → (¬ ((-1) : Int) = -1 ∧ k = g 214 6 → g1 220 k = l3) ∧ (¬ (¬ ((-1) : Int) = -1 ∧ k = g 214 6) → g1 220 k = g 220 k) := by
            intro k hk
            have m_140 : 0 ≤ (g1 220 k) ∧ (g1 220 k) ≤ 99 := I_2.1 220 k
            have m_141 : g1 220 k = g 220 k := by rw [e_1]; exact zi_u_ne (by decide)
            have m_142 : 0 ≤ (g 220 k) ∧ (g 220 k) ≤ 99 := I.1 220 k
            omega
          have z_147 : ∀ k : Int, 0 ≤ k ∧ k < 264 → (¬ ((-1) : Int) = -1 ∧ k = 6 + g 214 6 → g1 215 k = 0) ∧ (¬ ((-1) : Int) = -1 ∧ k = 16 + g 214 6 → g1 215 k = 0) ∧ (¬ ((-1) : Int) = -1 ∧ k = 26 + g 214 6 → g1 215 k = 0) ∧ (¬ (¬ ((-1) : Int) = -1 ∧ (k = 6 + g 214 6 ∨ k = 16 + g 214 6 ∨ k = 26 + g 214 6)) → g1 215 k = g 215 k) := by
            intro k hk
            have m_144 := zk_rng I_2 215 k
            have m_145 : g1 215 k = g 215 k := by rw [e_1]; exact zi_u_ne (by decide)
            have m_146 := zk_rng I 215 k
            omega
          have m_148 : 0 ≤ (g1 214 3) ∧ (g1 214 3) ≤ 6 := I_2.1 214 3
          have m_149 : g1 214 3 = g 214 3 := by rw [e_1]; exact zi_u_ni (by decide)
          have m_150 : 0 ≤ (g 214 3) ∧ (g 214 3) ≤ 6 := I.1 214 3
          exact hQ _ _ I_2 F_3 ⟨by omega, by omega⟩ (by omega) (by omega) z_143 z_147 (by omega) (by omega)
-- SpoutNews.isWordSet(I)Z
set_option maxRecDepth 100000 in
set_option maxHeartbeats 4000000 in
theorem k_S_isWordSet {l0 : Int} {g : zi_M} {Q : Int → zi_M → Prop} (I : zk_I g) (p0 : (-2147483648) ≤ l0 ∧ l0 ≤ 2147483647) (hQ : ∀ v : Int, (l0 < 0 → v = 0) → (0 ≤ l0 → 65536 ≤ l0 → v = 0) → (0 ≤ l0 → l0 < 65536 → v = 1) → Q v g) : w_S_isWordSet l0 g Q := by
  unfold w_S_isWordSet
  refine ⟨⟨by omega, by omega⟩, ?_⟩
  refine ⟨fun c3 => ?_, fun c3 => ?_⟩
  · exact hQ _ (by intros; omega) (by intros; omega) (by intros; omega)
  · refine ⟨fun c2 => ?_, fun c2 => ?_⟩
    · exact hQ _ (by intros; omega) (by intros; omega) (by intros; omega)
    · exact hQ _ (by intros; omega) (by intros; omega) (by intros; omega)
-- SpoutNews$World.addSitter(I)I
set_option maxRecDepth 100000 in
set_option maxHeartbeats 4000000 in
theorem k_World_addSitter {l1 : Int} {g : zi_M} {Q : Int → zi_M → Prop} (I : zk_I g) (p1 : (-2147483648) ≤ l1 ∧ l1 ≤ 2147483647) (hQ : ∀ (v : Int) (g' : zi_M), zk_I g' → zk_fr fr_World_addSitter g g' → ((-1) ≤ v ∧ v ≤ 7) → (g 2 11 < 8 → v = g 2 11 ∧ g' 2 11 = g 2 11 + 1) → (∀ k : Int, 0 ≤ k ∧ k < 8 → (g 2 11 < 8 ∧ k = g 2 11 → g' 10 k = l1) ∧ (¬ (g 2 11 < 8 ∧ k = g 2 11) → g' 10 k = g 10 k)) → (∀ k : Int, 0 ≤ k ∧ k < 8 → (g 2 11 < 8 ∧ k = g 2 11 → g' 11 k = (-1)) ∧ (¬ (g 2 11 < 8 ∧ k = g 2 11) → g' 11 k = g 11 k)) → Q v g') : w_World_addSitter l1 g Q := by
  unfold w_World_addSitter
  have m_1 : 0 ≤ (g 2 11) ∧ (g 2 11) ≤ 8 := I.1 2 11
  refine ⟨⟨by omega, by omega⟩, ?_⟩
  refine ⟨fun c6 => ?_, fun c6 => ?_⟩
  · refine ⟨⟨by omega, by omega⟩, ?_⟩
    intro g3 e_2
    have I_3 : zk_I g3 := by rw [e_2]; exact zk_upd (L := (-2147483648)) (H := 2147483647) rfl rfl I ⟨by omega, by omega⟩
    have F_4 : zk_fr fr_World_addSitter g g3 := by rw [e_2]; exact zk_fu (zk_f0 _) (Or.inl rfl)
    intro g4 e_5
    have I_6 : zk_I g4 := by rw [e_5]; exact zk_upd (L := (-1)) (H := 9) rfl rfl I_3 ⟨by omega, by omega⟩
    have F_7 : zk_fr fr_World_addSitter g g4 := by rw [e_5]; exact zk_fu F_4 (Or.inr (Or.inl rfl))
    intro g5 e_8
    have I_9 : zk_I g5 := by rw [e_8]; exact zk_upd (L := 0) (H := 8) rfl rfl I_6 ⟨by omega, by omega⟩
    have F_10 : zk_fr fr_World_addSitter g g5 := by rw [e_8]; exact zk_fu F_7 (Or.inr (Or.inr ⟨rfl, rfl⟩))
    have m_11 : 0 ≤ (g5 2 11) ∧ (g5 2 11) ≤ 8 := I_9.1 2 11
    have m_12 : g5 2 11 = (g 2 11) + 1 := by rw [e_8]; exact zi_u_eq
    have z_20 : ∀ k : Int, 0 ≤ k ∧ k < 8 → (g 2 11 < 8 ∧ k = g 2 11 → g5 10 k = l1) ∧ (¬ (g 2 11 < 8 ∧ k = g 2 11) → g5 10 k = g 10 k) := by
      intro k hk
      have m_13 : (-2147483648) ≤ (g5 10 k) ∧ (g5 10 k) ≤ 2147483647 := I_9.1 10 k
      have m_14 : g5 10 k = g4 10 k := by rw [e_8]; exact zi_u_ne (by decide)
      have m_15 : (-2147483648) ≤ (g4 10 k) ∧ (g4 10 k) ≤ 2147483647 := I_6.1 10 k
      have m_16 : g4 10 k = g3 10 k := by rw [e_5]; exact zi_u_ne (by decide)
      have m_17 : (-2147483648) ≤ (g3 10 k) ∧ (g3 10 k) ≤ 2147483647 := I_3.1 10 k
      have m_18 : (-2147483648) ≤ (g 10 k) ∧ (g 10 k) ≤ 2147483647 := I.1 10 k
      have m_19 : (k = g 2 11 → g3 10 k = l1) ∧ (¬ k = g 2 11 → g3 10 k = g 10 k) := by rw [e_2]; exact zi_u_if
      omega
    have z_28 : ∀ k : Int, 0 ≤ k ∧ k < 8 → (g 2 11 < 8 ∧ k = g 2 11 → g5 11 k = (-1)) ∧ (¬ (g 2 11 < 8 ∧ k = g 2 11) → g5 11 k = g 11 k) := by
      intro k hk
      have m_21 : (-1) ≤ (g5 11 k) ∧ (g5 11 k) ≤ 9 := I_9.1 11 k
      have m_22 : g5 11 k = g4 11 k := by rw [e_8]; exact zi_u_ne (by decide)
      have m_23 : (-1) ≤ (g4 11 k) ∧ (g4 11 k) ≤ 9 := I_6.1 11 k
      have m_24 : (-1) ≤ (g3 11 k) ∧ (g3 11 k) ≤ 9 := I_3.1 11 k
      have m_25 : g3 11 k = g 11 k := by rw [e_2]; exact zi_u_ne (by decide)
      have m_26 : (-1) ≤ (g 11 k) ∧ (g 11 k) ≤ 9 := I.1 11 k
      have m_27 : (k = g 2 11 → g4 11 k = (-1)) ∧ (¬ k = g 2 11 → g4 11 k = g3 11 k) := by rw [e_5]; exact zi_u_if
      omega
    exact hQ _ _ I_9 F_10 ⟨by omega, by omega⟩ (by omega) z_20 z_28
  · have z_30 : ∀ k : Int, 0 ≤ k ∧ k < 8 → (g 2 11 < 8 ∧ k = g 2 11 → g 10 k = l1) ∧ (¬ (g 2 11 < 8 ∧ k = g 2 11) → g 10 k = g 10 k) := by
      intro k hk
      have m_29 : (-2147483648) ≤ (g 10 k) ∧ (g 10 k) ≤ 2147483647 := I.1 10 k
      omega
    have z_32 : ∀ k : Int, 0 ≤ k ∧ k < 8 → (g 2 11 < 8 ∧ k = g 2 11 → g 11 k = (-1)) ∧ (¬ (g 2 11 < 8 ∧ k = g 2 11) → g 11 k = g 11 k) := by
      intro k hk
      have m_31 : (-1) ≤ (g 11 k) ∧ (g 11 k) ≤ 9 := I.1 11 k
      omega
    exact hQ _ _ I (zk_f0 _) ⟨by omega, by omega⟩ (by omega) z_30 z_32
-- SpoutNews.sitter(I)I
set_option maxRecDepth 100000 in
set_option maxHeartbeats 4000000 in
theorem k_S_sitter {l1 : Int} {g : zi_M} {Q : Int → zi_M → Prop} (I : zk_I g) (p1 : (-2147483648) ≤ l1 ∧ l1 ≤ 2147483647) (hQ : ∀ (v : Int) (g' : zi_M), zk_I g' → zk_fr fr_S_sitter g g' → ((-1) ≤ v ∧ v ≤ 7) → (0 ≤ l1 ∧ l1 ≤ 65535 ∧ g 2 11 < 8 → v = g 2 11 ∧ g' 2 11 = g 2 11 + 1) → (¬ (0 ≤ l1 ∧ l1 ≤ 65535 ∧ g 2 11 < 8) → v = -1 ∧ g' 2 11 = g 2 11) → (¬ v = -1 → g' 91 1 = 0) → (v = -1 → g' = g) → (∀ k : Int, 0 ≤ k ∧ k < 8 → (¬ v = -1 ∧ k = g 2 11 → g' 10 k = l1) ∧ (¬ (¬ v = -1 ∧ k = g 2 11) → g' 10 k = g 10 k)) → (∀ k : Int, 0 ≤ k ∧ k < 8 → (¬ v = -1 ∧ k = g 2 11 → g' 11 k = (-1)) ∧ (¬ (¬ v = -1 ∧ k = g 2 11) → g' 11 k = g 11 k)) → Q v g') : w_S_sitter l1 g Q := by
  unfold w_S_sitter
  refine k_S_isWordSet I ⟨by omega, by omega⟩ (fun v1 b_1 b_2 b_3 => ?_)
  refine ⟨fun c12 => ?_, fun c12 => ?_⟩
  · have m_4 : 0 ≤ (g 2 11) ∧ (g 2 11) ≤ 8 := I.1 2 11
    have m_5 : 0 ≤ (g 91 1) ∧ (g 91 1) ≤ 6 := I.1 91 1
    have z_7 : ∀ k : Int, 0 ≤ k ∧ k < 8 → (¬ ((-1) : Int) = -1 ∧ k = g 2 11 → g 10 k = l1) ∧ (¬ (¬ ((-1) : Int) = -1 ∧ k = g 2 11) → g 10 k = g 10 k) := by
      intro k hk
      have m_6 : (-2147483648) ≤ (g 10 k) ∧ (g 10 k) ≤ 2147483647 := I.1 10 k
      omega
    have z_9 : ∀ k : Int, 0 ≤ k ∧ k < 8 → (¬ ((-1) : Int) = -1 ∧ k = g 2 11 → g 11 k = (-1)) ∧ (¬ (¬ ((-1) : Int) = -1 ∧ k = g 2 11) → g 11 k = g 11 k) := by
      intro k hk
      have m_8 : (-1) ≤ (g 11 k) ∧ (g 11 k) ≤ 9 := I.1 11 k
      omega
    exact hQ _ _ I (zk_f0 _) ⟨by omega, by omega⟩ (by omega) (by omega) (by omega) (by intro hv; first | rfl | assumption | (exfalso; omega)) z_7 z_9
  · have m_10 : 0 ≤ (g 2 11) ∧ (g 2 11) ≤ 8 := I.1 2 11
    refine ⟨⟨by omega, by omega⟩, ?_⟩
    refine ⟨fun c11 => ?_, fun c11 => ?_⟩
    · refine k_Past_forget I (fun g6 I_12 F_13 b_11 => ?_)
      have F_14 : zk_fr fr_S_sitter g g6 := zk_ft (zk_f0 _) F_13 (fun a i => (fun h => (Or.inr (Or.inr (Or.inr h)))))
      have m_15 : 0 ≤ (g6 2 11) ∧ (g6 2 11) ≤ 8 := I_12.1 2 11
      have m_16 : g6 2 11 = g 2 11 := F_13 _ _ (by unfold fr_Past_forget; omega)
      refine k_World_addSitter I_12 ⟨by omega, by omega⟩ (fun v8 g9 I_21 F_22 b_17 b_18 b_19 b_20 => ?_)
      have F_23 : zk_fr fr_S_sitter g g9 := zk_ft F_14 F_22 (fun a i => (fun h => Or.elim h (fun h => (Or.inl h)) (fun h => Or.elim h (fun h => (Or.inr (Or.inl h))) (fun h => (Or.inr (Or.inr (Or.inl h)))))))
      have m_24 : 0 ≤ (g9 2 11) ∧ (g9 2 11) ≤ 8 := I_21.1 2 11
      have m_25 : 0 ≤ (g9 91 1) ∧ (g9 91 1) ≤ 6 := I_21.1 91 1
      have m_26 : g9 91 1 = g6 91 1 := F_22 _ _ (by unfold fr_World_addSitter; omega)
      have m_27 : 0 ≤ (g6 91 1) ∧ (g6 91 1) ≤ 6 := I_12.1 91 1
      have z_33 : ∀ k : Int, 0 ≤ k ∧ k < 8 → (¬ (v8 : Int) = -1 ∧ k = g 2 11 → g9 10 k = l1) ∧ (¬ (¬ (v8 : Int) = -1 ∧ k = g 2 11) → g9 10 k = g 10 k) := by
        intro k hk
        have m_28 : (-2147483648) ≤ (g9 10 k) ∧ (g9 10 k) ≤ 2147483647 := I_21.1 10 k
        have m_29 := b_19 k hk
        have m_30 : (-2147483648) ≤ (g6 10 k) ∧ (g6 10 k) ≤ 2147483647 := I_12.1 10 k
        have m_31 : g6 10 k = g 10 k := F_13 _ _ (by unfold fr_Past_forget; omega)
        have m_32 : (-2147483648) ≤ (g 10 k) ∧ (g 10 k) ≤ 2147483647 := I.1 10 k
        omega
      have z_39 : ∀ k : Int, 0 ≤ k ∧ k < 8 → (¬ (v8 : Int) = -1 ∧ k = g 2 11 → g9 11 k = (-1)) ∧ (¬ (¬ (v8 : Int) = -1 ∧ k = g 2 11) → g9 11 k = g 11 k) := by
        intro k hk
        have m_34 : (-1) ≤ (g9 11 k) ∧ (g9 11 k) ≤ 9 := I_21.1 11 k
        have m_35 := b_20 k hk
        have m_36 : (-1) ≤ (g6 11 k) ∧ (g6 11 k) ≤ 9 := I_12.1 11 k
        have m_37 : g6 11 k = g 11 k := F_13 _ _ (by unfold fr_Past_forget; omega)
        have m_38 : (-1) ≤ (g 11 k) ∧ (g 11 k) ≤ 9 := I.1 11 k
        omega
      exact hQ _ _ I_21 F_23 ⟨by omega, by omega⟩ (by omega) (by omega) (by omega) (by intro hv; first | rfl | assumption | (exfalso; omega)) z_33 z_39
    · have m_40 : 0 ≤ (g 91 1) ∧ (g 91 1) ≤ 6 := I.1 91 1
      have z_42 : ∀ k : Int, 0 ≤ k ∧ k < 8 → (¬ ((-1) : Int) = -1 ∧ k = g 2 11 → g 10 k = l1) ∧ (¬ (¬ ((-1) : Int) = -1 ∧ k = g 2 11) → g 10 k = g 10 k) := by
        intro k hk
        have m_41 : (-2147483648) ≤ (g 10 k) ∧ (g 10 k) ≤ 2147483647 := I.1 10 k
        omega
      have z_44 : ∀ k : Int, 0 ≤ k ∧ k < 8 → (¬ ((-1) : Int) = -1 ∧ k = g 2 11 → g 11 k = (-1)) ∧ (¬ (¬ ((-1) : Int) = -1 ∧ k = g 2 11) → g 11 k = g 11 k) := by
        intro k hk
        have m_43 : (-1) ≤ (g 11 k) ∧ (g 11 k) ≤ 9 := I.1 11 k
        omega
      exact hQ _ _ I (zk_f0 _) ⟨by omega, by omega⟩ (by omega) (by omega) (by omega) (by intro hv; first | rfl | assumption | (exfalso; omega)) z_42 z_44
-- SpoutNewsModel.sitter(I)I
set_option maxRecDepth 100000 in
set_option maxHeartbeats 4000000 in
theorem k_M_sitter {l1 : Int} {g : zi_M} {Q : Int → zi_M → Prop} (I : zk_I g) (p1 : (-2147483648) ≤ l1 ∧ l1 ≤ 2147483647) (hQ : ∀ (v : Int) (g' : zi_M), zk_I g' → zk_fr fr_M_sitter g g' → ((-1) ≤ v ∧ v ≤ 7) → (0 ≤ l1 ∧ l1 ≤ 65535 ∧ g 214 7 < 8 → v = g 214 7 ∧ g' 214 7 = g 214 7 + 1) → (¬ (0 ≤ l1 ∧ l1 ≤ 65535 ∧ g 214 7 < 8) → v = -1 ∧ g' 214 7 = g 214 7) → (∀ k : Int, 0 ≤ k ∧ k < 264 → (¬ v = -1 ∧ k = 236 + g 214 7 → g' 215 k = l1) ∧ (¬ v = -1 ∧ k = 244 + g 214 7 → g' 215 k = 0) ∧ (¬ (¬ v = -1 ∧ (k = 236 + g 214 7 ∨ k = 244 + g 214 7)) → g' 215 k = g 215 k)) → (¬ v = -1 → g' 214 3 = 0) → (v = -1 → g' 214 3 = g 214 3) → Q v g') : w_M_sitter l1 g Q := by
  unfold w_M_sitter
  intro g1 e_1
  have I_2 : zk_I g1 := by rw [e_1]; exact zk_upd (L := (-2147483648)) (H := 2147483647) rfl rfl I ⟨by omega, by omega⟩
  have F_3 : zk_fr fr_M_sitter g g1 := by rw [e_1]; exact zk_fu (zk_f0 _) (Or.inl ⟨rfl, rfl⟩)
  refine k_M_isIn I_2 ⟨by omega, by omega⟩ ⟨by omega, by omega⟩ ⟨by omega, by omega⟩ (fun v2 b_4 b_5 b_6 => ?_)
  refine ⟨fun c13 => ?_, fun c13 => ?_⟩
  · have m_7 : 0 ≤ (g1 214 7) ∧ (g1 214 7) ≤ 8 := I_2.1 214 7
    have m_8 : g1 214 7 = g 214 7 := by rw [e_1]; exact zi_u_ni (by decide)
    have m_9 : 0 ≤ (g 214 7) ∧ (g 214 7) ≤ 8 := I.1 214 7
    have z_13 : ∀ k : Int, 0 ≤ k ∧ k < 264 → (¬ ((-1) : Int) = -1 ∧ k = 236 + g 214 7 → g1 215 k = l1) ∧ (¬ ((-1) : Int) = -1 ∧ k = 244 + g 214 7 → g1 215 k = 0) ∧ (¬ (¬ ((-1) : Int) = -1 ∧ (k = 236 + g 214 7 ∨ k = 244 + g 214 7)) → g1 215 k = g 215 k) := by
      intro k hk
      have m_10 := zk_rng I_2 215 k
      have m_11 : g1 215 k = g 215 k := by rw [e_1]; exact zi_u_ne (by decide)
      have m_12 := zk_rng I 215 k
      omega
    have m_14 : 0 ≤ (g1 214 3) ∧ (g1 214 3) ≤ 6 := I_2.1 214 3
    have m_15 : g1 214 3 = g 214 3 := by rw [e_1]; exact zi_u_ni (by decide)
    have m_16 : 0 ≤ (g 214 3) ∧ (g 214 3) ≤ 6 := I.1 214 3
    exact hQ _ _ I_2 F_3 ⟨by omega, by omega⟩ (by omega) (by omega) z_13 (by omega) (by omega)
  · have m_17 : 0 ≤ (g1 214 7) ∧ (g1 214 7) ≤ 8 := I_2.1 214 7
    have m_18 : g1 214 7 = g 214 7 := by rw [e_1]; exact zi_u_ni (by decide)
    have m_19 : 0 ≤ (g 214 7) ∧ (g 214 7) ≤ 8 := I.1 214 7
    refine ⟨⟨by omega, by omega⟩, ?_⟩
    refine ⟨fun c12 => ?_, fun c12 => ?_⟩
    · refine ⟨⟨by omega, by omega⟩, ?_⟩
      intro g7 e_20
      have I_21 : zk_I g7 := by rw [e_20]; exact zk_upd (zk_nl236 (i := 236 + (g1 214 7)) (by omega)).1 (zk_nl236 (i := 236 + (g1 214 7)) (by omega)).2 I_2 ⟨by omega, by omega⟩
      have F_22 : zk_fr fr_M_sitter g g7 := by rw [e_20]; exact zk_fu F_3 (Or.inr (Or.inr (Or.inr (Or.inl ⟨rfl, by omega, by omega⟩))))
      have m_26 : 0 ≤ (g7 214 7) ∧ (g7 214 7) ≤ 8 := I_21.1 214 7
      have m_27 : g7 214 7 = g1 214 7 := by rw [e_20]; exact zi_u_ne (by decide)
      refine ⟨⟨by omega, by omega⟩, ?_⟩
      intro g9 e_23
      have I_24 : zk_I g9 := by rw [e_23]; exact zk_upd (zk_nl244 (i := 244 + (g7 214 7)) (by omega)).1 (zk_nl244 (i := 244 + (g7 214 7)) (by omega)).2 I_21 ⟨by omega, by omega⟩
      have F_25 : zk_fr fr_M_sitter g g9 := by rw [e_23]; exact zk_fu F_22 (Or.inr (Or.inr (Or.inr (Or.inr ⟨rfl, by omega, by omega⟩))))
      have m_31 : 0 ≤ (g9 214 7) ∧ (g9 214 7) ≤ 8 := I_24.1 214 7
      have m_32 : g9 214 7 = g7 214 7 := by rw [e_23]; exact zi_u_ne (by decide)
      intro g10 e_28
      have I_29 : zk_I g10 := by rw [e_28]; exact zk_upd (L := 0) (H := 8) rfl rfl I_24 ⟨by omega, by omega⟩
      have F_30 : zk_fr fr_M_sitter g g10 := by rw [e_28]; exact zk_fu F_25 (Or.inr (Or.inr (Or.inl ⟨rfl, rfl⟩)))
      intro g11 e_33
      have I_34 : zk_I g11 := by rw [e_33]; exact zk_upd (L := 0) (H := 6) rfl rfl I_29 ⟨by omega, by omega⟩
      have F_35 : zk_fr fr_M_sitter g g11 := by rw [e_33]; exact zk_fu F_30 (Or.inr (Or.inl ⟨rfl, rfl⟩))
      have m_36 : 0 ≤ (g11 214 7) ∧ (g11 214 7) ≤ 8 := I_34.1 214 7
      have m_37 : g11 214 7 = g10 214 7 := by rw [e_33]; exact zi_u_ni (by decide)
      have m_38 : 0 ≤ (g10 214 7) ∧ (g10 214 7) ≤ 8 := I_29.1 214 7
      have m_39 : g10 214 7 = (g9 214 7) + 1 := by rw [e_28]; exact zi_u_eq
      have z_51 : ∀ k : Int, 0 ≤ k ∧ k < 264 → (¬ ((g11 214 7) - 1 : Int) = -1 ∧ k = 236 + g 214 7 → g11 215 k = l1) ∧ (¬ ((g11 214 7) - 1 : Int) = -1 ∧ k = 244 + g 214 7 → g11 215 k = 0) ∧ (¬ (¬ ((g11 214 7) - 1 : Int) = -1 ∧ (k = 236 + g 214 7 ∨ k = 244 + g 214 7)) → g11 215 k = g 215 k) := by
        intro k hk
        have m_40 := zk_rng I_34 215 k
        have m_41 : g11 215 k = g10 215 k := by rw [e_33]; exact zi_u_ne (by decide)
        have m_42 := zk_rng I_29 215 k
        have m_43 : g10 215 k = g9 215 k := by rw [e_28]; exact zi_u_ne (by decide)
        have m_44 := zk_rng I_24 215 k
        have m_45 := zk_rng I_21 215 k
        have m_46 := zk_rng I_2 215 k
        have m_47 : g1 215 k = g 215 k := by rw [e_1]; exact zi_u_ne (by decide)
        have m_48 := zk_rng I 215 k
        have m_49 : (k = 236 + (g1 214 7) → g7 215 k = l1) ∧ (¬ k = 236 + (g1 214 7) → g7 215 k = g1 215 k) := by rw [e_20]; exact zi_u_if
        have m_50 : (k = 244 + (g7 214 7) → g9 215 k = 0) ∧ (¬ k = 244 + (g7 214 7) → g9 215 k = g7 215 k) := by rw [e_23]; exact zi_u_if
        omega
      have m_52 : 0 ≤ (g11 214 3) ∧ (g11 214 3) ≤ 6 := I_34.1 214 3
      have m_53 : g11 214 3 = 0 := by rw [e_33]; exact zi_u_eq
      exact hQ _ _ I_34 F_35 ⟨by omega, by omega⟩ (by omega) (by omega) z_51 (by omega) (by omega)
    · have z_57 : ∀ k : Int, 0 ≤ k ∧ k < 264 → (¬ ((-1) : Int) = -1 ∧ k = 236 + g 214 7 → g1 215 k = l1) ∧ (¬ ((-1) : Int) = -1 ∧ k = 244 + g 214 7 → g1 215 k = 0) ∧ (¬ (¬ ((-1) : Int) = -1 ∧ (k = 236 + g 214 7 ∨ k = 244 + g 214 7)) → g1 215 k = g 215 k) := by
        intro k hk
        have m_54 := zk_rng I_2 215 k
        have m_55 : g1 215 k = g 215 k := by rw [e_1]; exact zi_u_ne (by decide)
        have m_56 := zk_rng I 215 k
        omega
      have m_58 : 0 ≤ (g1 214 3) ∧ (g1 214 3) ≤ 6 := I_2.1 214 3
      have m_59 : g1 214 3 = g 214 3 := by rw [e_1]; exact zi_u_ni (by decide)
      have m_60 : 0 ≤ (g 214 3) ∧ (g 214 3) ≤ 6 := I.1 214 3
      exact hQ _ _ I_2 F_3 ⟨by omega, by omega⟩ (by omega) (by omega) z_57 (by omega) (by omega)
-- SpoutNews$World.isSpout(I)Z
set_option maxRecDepth 100000 in
set_option maxHeartbeats 4000000 in
theorem k_World_isSpout {r0 : Nat} (hr0 : zs_sh r0 = some (10, 20)) {l1 : Int} {g : zi_M} {Q : Int → zi_M → Prop} (I : zk_I g) (p1 : (-2147483648) ≤ l1 ∧ l1 ≤ 2147483647) (hQ : ∀ v : Int, (l1 < 0 → v = 0) → (0 ≤ l1 → (g r0 8) ≤ l1 → v = 0) → (0 ≤ l1 → l1 < (g r0 8) → v = 1) → Q v g) : w_World_isSpout r0 l1 g Q := by
  unfold w_World_isSpout
  refine ⟨⟨by omega, by omega⟩, ?_⟩
  refine ⟨fun c4 => ?_, fun c4 => ?_⟩
  · have m_1 := zk_c10_8 hr0 I
    exact hQ _ (by intros; omega) (by intros; omega) (by intros; omega)
  · have m_2 := zk_c10_8 hr0 I
    refine ⟨⟨by omega, by omega⟩, ?_⟩
    refine ⟨fun c3 => ?_, fun c3 => ?_⟩
    · exact hQ _ (by intros; omega) (by intros; omega) (by intros; omega)
    · exact hQ _ (by intros; omega) (by intros; omega) (by intros; omega)
