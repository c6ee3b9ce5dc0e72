-- by program (wip/gen/mkz.py)
-- SpoutNews$Past.forget()V
set_option maxRecDepth 100000 in
set_option maxHeartbeats 4000000 in
theorem k_Past_forget {g : zi_M} {Q : Int → zi_M → Prop} (I : zk_I g) (hQ : ∀ g' : zi_M, zk_I g' → zk_fr fr_Past_forget g g' → (g' 91 1 = 0) → Q 0 g') : w_Past_forget g Q := by
  unfold w_Past_forget
  intro g1 e_1
  have I_2 : zk_I g1 := by rw [e_1]; exact zk_upd (L := 0) (H := 6) rfl rfl I ⟨by omega, by omega⟩
  have F_3 : zk_fr fr_Past_forget g g1 := by rw [e_1]; exact zk_fu (zk_f0 _) ⟨rfl, rfl⟩
  have m_4 : 0 ≤ (g1 91 1) ∧ (g1 91 1) ≤ 6 := I_2.1 91 1
  have m_5 : g1 91 1 = 0 := by rw [e_1]; exact zi_u_eq
  exact hQ _ I_2 F_3 (by omega)
-- SpoutNews.state(I)I
set_option maxRecDepth 100000 in
set_option maxHeartbeats 4000000 in
theorem k_S_state {l1 : Int} {g : zi_M} {Q : Int → zi_M → Prop} (I : zk_I g) (p1 : (-2147483648) ≤ l1 ∧ l1 ≤ 2147483647) (hQ : ∀ (v : Int) (g' : zi_M), zk_I g' → zk_fr fr_S_state g g' → ((-2147483648) ≤ v ∧ v ≤ 2147483647) → (g' 91 1 = 0) → (g' 2 18 = l1) → (v = g 2 18) → Q v g') : w_S_state l1 g Q := by
  unfold w_S_state
  intro g1 e_1
  have I_2 : zk_I g1 := by rw [e_1]; exact zk_upd (L := (-2147483648)) (H := 2147483647) rfl rfl I ⟨by omega, by omega⟩
  have F_3 : zk_fr fr_S_state g g1 := by rw [e_1]; exact zk_fu (zk_f0 _) (Or.inl ⟨rfl, rfl⟩)
  refine k_Past_forget I_2 (fun g3 I_5 F_6 b_4 => ?_)
  have F_7 : zk_fr fr_S_state g g3 := zk_ft F_3 F_6 (fun a i => (fun h => (Or.inr h)))
  have m_8 : (-2147483648) ≤ (g 2 18) ∧ (g 2 18) ≤ 2147483647 := I.1 2 18
  have m_9 : 0 ≤ (g3 91 1) ∧ (g3 91 1) ≤ 6 := I_5.1 91 1
  have m_10 : (-2147483648) ≤ (g3 2 18) ∧ (g3 2 18) ≤ 2147483647 := I_5.1 2 18
  have m_11 : g3 2 18 = g1 2 18 := F_6 _ _ (by unfold fr_Past_forget; omega)
  have m_12 : (-2147483648) ≤ (g1 2 18) ∧ (g1 2 18) ≤ 2147483647 := I_2.1 2 18
  have m_13 : g1 2 18 = l1 := by rw [e_1]; exact zi_u_eq
  exact hQ _ _ I_5 F_7 ⟨by omega, by omega⟩ (by omega) (by omega) (by rfl)
-- SpoutNewsModel.state(I)I
set_option maxRecDepth 100000 in
set_option maxHeartbeats 4000000 in
theorem k_M_state {l1 : Int} {g : zi_M} {Q : Int → zi_M → Prop} (I : zk_I g) (p1 : (-2147483648) ≤ l1 ∧ l1 ≤ 2147483647) (hQ : ∀ (v : Int) (g' : zi_M), zk_I g' → zk_fr fr_M_state g g' → ((-2147483648) ≤ v ∧ v ≤ 2147483647) → (∀ k : Int, 0 ≤ k ∧ k < 264 → (k = 1 → g' 215 k = l1) ∧ (¬ k = 1 → g' 215 k = g 215 k)) → (g' 214 3 = 0) → (v = g 215 1) → Q v g') : w_M_state l1 g Q := by
  unfold w_M_state
  intro g1 e_1
  have I_2 : zk_I g1 := by rw [e_1]; exact zk_upd (L := (-2147483648)) (H := 2147483647) rfl rfl I ⟨by omega, by omega⟩
  have F_3 : zk_fr fr_M_state g g1 := by rw [e_1]; exact zk_fu (zk_f0 _) (Or.inl ⟨rfl, rfl⟩)
  intro g2 e_4
  have I_5 : zk_I g2 := by rw [e_4]; exact zk_upd (zk_nl0 (i := 1) (by omega)).1 (zk_nl0 (i := 1) (by omega)).2 I_2 ⟨by omega, by omega⟩
  have F_6 : zk_fr fr_M_state g g2 := by rw [e_4]; exact zk_fu F_3 (Or.inr (Or.inr ⟨rfl, by omega, by omega⟩))
  intro g3 e_7
  have I_8 : zk_I g3 := by rw [e_7]; exact zk_upd (L := 0) (H := 6) rfl rfl I_5 ⟨by omega, by omega⟩
  have F_9 : zk_fr fr_M_state g g3 := by rw [e_7]; exact zk_fu F_6 (Or.inr (Or.inl ⟨rfl, rfl⟩))
  have m_10 := zk_rng I_2 215 1
  have m_11 : g1 215 1 = g 215 1 := by rw [e_1]; exact zi_u_ne (by decide)
  have m_12 := zk_rng I 215 1
  have z_20 : ∀ k : Int, 0 ≤ k ∧ k < 264 → (k = 1 → g3 215 k = l1) ∧ (¬ k = 1 → g3 215 k = g 215 k) := by
    intro k hk
    have m_13 := zk_rng I_8 215 k
    have m_14 : g3 215 k = g2 215 k := by rw [e_7]; exact zi_u_ne (by decide)
    have m_15 := zk_rng I_5 215 k
    have m_16 := zk_rng I_2 215 k
    have m_17 : g1 215 k = g 215 k := by rw [e_1]; exact zi_u_ne (by decide)
    have m_18 := zk_rng I 215 k
    have m_19 : (k = 1 → g2 215 k = l1) ∧ (¬ k = 1 → g2 215 k = g1 215 k) := by rw [e_4]; exact zi_u_if
    omega
  have m_21 : 0 ≤ (g3 214 3) ∧ (g3 214 3) ≤ 6 := I_8.1 214 3
  have m_22 : g3 214 3 = 0 := by rw [e_7]; exact zi_u_eq
  exact hQ _ _ I_8 F_9 ⟨by omega, by omega⟩ z_20 (by omega) (by exact zSt_m (by assumption) (by decide))
-- SpoutNews$World.addSpout(III)I
set_option maxRecDepth 100000 in
set_option maxHeartbeats 4000000 in
theorem k_World_addSpout {l1 : Int} {l2 : Int} {l3 : Int} {g : zi_M} {Q : Int → zi_M → Prop} (I : zk_I g) (p1 : 0 ≤ l1 ∧ l1 ≤ 5) (p2 : 0 ≤ l2 ∧ l2 ≤ 3) (p3 : 0 ≤ l3 ∧ l3 ≤ 99) (hQ : ∀ (v : Int) (g' : zi_M), zk_I g' → zk_fr fr_World_addSpout g g' → ((-1) ≤ v ∧ v ≤ 9) → (g 2 8 < 10 → v = g 2 8 ∧ g' 2 8 = g 2 8 + 1) → (∀ k : Int, 0 ≤ k ∧ k < 10 → (g 2 8 < 10 ∧ k = g 2 8 → g' 5 k = l3) ∧ (¬ (g 2 8 < 10 ∧ k = g 2 8) → g' 5 k = g 5 k)) → (∀ k : Int, 0 ≤ k ∧ k < 10 → (g 2 8 < 10 ∧ k = g 2 8 → g' 6 k = 0) ∧ (¬ (g 2 8 < 10 ∧ k = g 2 8) → g' 6 k = g 6 k)) → (∀ k : Int, 0 ≤ k ∧ k < 10 → (g 2 8 < 10 ∧ k = g 2 8 → g' 7 k = 0) ∧ (¬ (g 2 8 < 10 ∧ k = g 2 8) → g' 7 k = g 7 k)) → (∀ k : Int, 0 ≤ k ∧ k < 10 → (g 2 8 < 10 ∧ k = g 2 8 → g' 8 k = 0) ∧ (¬ (g 2 8 < 10 ∧ k = g 2 8) → g' 8 k = g 8 k)) → (∀ k : Int, 0 ≤ k ∧ k < 10 → (g 2 8 < 10 ∧ k = g 2 8 → g' 3 k = l1) ∧ (¬ (g 2 8 < 10 ∧ k = g 2 8) → g' 3 k = g 3 k)) → (∀ k : Int, 0 ≤ k ∧ k < 10 → (g 2 8 < 10 ∧ k = g 2 8 → g' 4 k = l2) ∧ (¬ (g 2 8 < 10 ∧ k = g 2 8) → g' 4 k = g 4 k)) → Q v g') : w_World_addSpout l1 l2 l3 g Q := by
  unfold w_World_addSpout
  have m_1 : 0 ≤ (g 2 8) ∧ (g 2 8) ≤ 10 := I.1 2 8
  refine ⟨⟨by omega, by omega⟩, ?_⟩
  refine ⟨fun c10 => ?_, fun c10 => ?_⟩
  · refine ⟨⟨by omega, by omega⟩, ?_⟩
    intro g3 e_2
    have I_3 : zk_I g3 := by rw [e_2]; exact zk_upd (L := 0) (H := 5) rfl rfl I ⟨by omega, by omega⟩
    have F_4 : zk_fr fr_World_addSpout g g3 := by rw [e_2]; exact zk_fu (zk_f0 _) (Or.inl rfl)
    intro g4 e_5
    have I_6 : zk_I g4 := by rw [e_5]; exact zk_upd (L := 0) (H := 3) rfl rfl I_3 ⟨by omega, by omega⟩
    have F_7 : zk_fr fr_World_addSpout g g4 := by rw [e_5]; exact zk_fu F_4 (Or.inr (Or.inl rfl))
    intro g5 e_8
    have I_9 : zk_I g5 := by rw [e_8]; exact zk_upd (L := 0) (H := 99) rfl rfl I_6 ⟨by omega, by omega⟩
    have F_10 : zk_fr fr_World_addSpout g g5 := by rw [e_8]; exact zk_fu F_7 (Or.inr (Or.inr (Or.inl rfl)))
    intro g6 e_11
    have I_12 : zk_I g6 := by rw [e_11]; exact zk_upd (L := 0) (H := 2) rfl rfl I_9 ⟨by omega, by omega⟩
    have F_13 : zk_fr fr_World_addSpout g g6 := by rw [e_11]; exact zk_fu F_10 (Or.inr (Or.inr (Or.inr (Or.inl rfl))))
    intro g7 e_14
    have I_15 : zk_I g7 := by rw [e_14]; exact zk_upd (L := 0) (H := 999) rfl rfl I_12 ⟨by omega, by omega⟩
    have F_16 : zk_fr fr_World_addSpout g g7 := by rw [e_14]; exact zk_fu F_13 (Or.inr (Or.inr (Or.inr (Or.inr (Or.inl rfl)))))
    intro g8 e_17
    have I_18 : zk_I g8 := by rw [e_17]; exact zk_upd (L := 0) (H := 20) rfl rfl I_15 ⟨by omega, by omega⟩
    have F_19 : zk_fr fr_World_addSpout g g8 := by rw [e_17]; exact zk_fu F_16 (Or.inr (Or.inr (Or.inr (Or.inr (Or.inr (Or.inl rfl))))))
    intro g9 e_20
    have I_21 : zk_I g9 := by rw [e_20]; exact zk_upd (L := 0) (H := 10) rfl rfl I_18 ⟨by omega, by omega⟩
    have F_22 : zk_fr fr_World_addSpout g g9 := by rw [e_20]; exact zk_fu F_19 (Or.inr (Or.inr (Or.inr (Or.inr (Or.inr (Or.inr ⟨rfl, rfl⟩))))))
    have m_23 : 0 ≤ (g9 2 8) ∧ (g9 2 8) ≤ 10 := I_21.1 2 8
    have m_24 : g9 2 8 = (g 2 8) + 1 := by rw [e_20]; exact zi_u_eq
    have z_40 : ∀ k : Int, 0 ≤ k ∧ k < 10 → (g 2 8 < 10 ∧ k = g 2 8 → g9 5 k = l3) ∧ (¬ (g 2 8 < 10 ∧ k = g 2 8) → g9 5 k = g 5 k) := by
      intro k hk
      have m_25 : 0 ≤ (g9 5 k) ∧ (g9 5 k) ≤ 99 := I_21.1 5 k
      have m_26 : g9 5 k = g8 5 k := by rw [e_20]; exact zi_u_ne (by decide)
      have m_27 : 0 ≤ (g8 5 k) ∧ (g8 5 k) ≤ 99 := I_18.1 5 k
      have m_28 : g8 5 k = g7 5 k := by rw [e_17]; exact zi_u_ne (by decide)
      have m_29 : 0 ≤ (g7 5 k) ∧ (g7 5 k) ≤ 99 := I_15.1 5 k
      have m_30 : g7 5 k = g6 5 k := by rw [e_14]; exact zi_u_ne (by decide)
      have m_31 : 0 ≤ (g6 5 k) ∧ (g6 5 k) ≤ 99 := I_12.1 5 k
      have m_32 : g6 5 k = g5 5 k := by rw [e_11]; exact zi_u_ne (by decide)
      have m_33 : 0 ≤ (g5 5 k) ∧ (g5 5 k) ≤ 99 := I_9.1 5 k
      have m_34 : 0 ≤ (g4 5 k) ∧ (g4 5 k) ≤ 99 := I_6.1 5 k
      have m_35 : g4 5 k = g3 5 k := by rw [e_5]; exact zi_u_ne (by decide)
      have m_36 : 0 ≤ (g3 5 k) ∧ (g3 5 k) ≤ 99 := I_3.1 5 k
      have m_37 : g3 5 k = g 5 k := by rw [e_2]; exact zi_u_ne (by decide)
      have m_38 : 0 ≤ (g 5 k) ∧ (g 5 k) ≤ 99 := I.1 5 k
      have m_39 : (k = g 2 8 → g5 5 k = l3) ∧ (¬ k = g 2 8 → g5 5 k = g4 5 k) := by rw [e_8]; exact zi_u_if
      omega
    have z_56 : ∀ k : Int, 0 ≤ k ∧ k < 10 → (g 2 8 < 10 ∧ k = g 2 8 → g9 6 k = 0) ∧ (¬ (g 2 8 < 10 ∧ k = g 2 8) → g9 6 k = g 6 k) := by
      intro k hk
      have m_41 : 0 ≤ (g9 6 k) ∧ (g9 6 k) ≤ 2 := I_21.1 6 k
      have m_42 : g9 6 k = g8 6 k := by rw [e_20]; exact zi_u_ne (by decide)
      have m_43 : 0 ≤ (g8 6 k) ∧ (g8 6 k) ≤ 2 := I_18.1 6 k
      have m_44 : g8 6 k = g7 6 k := by rw [e_17]; exact zi_u_ne (by decide)
      have m_45 : 0 ≤ (g7 6 k) ∧ (g7 6 k) ≤ 2 := I_15.1 6 k
      have m_46 : g7 6 k = g6 6 k := by rw [e_14]; exact zi_u_ne (by decide)
      have m_47 : 0 ≤ (g6 6 k) ∧ (g6 6 k) ≤ 2 := I_12.1 6 k
      have m_48 : 0 ≤ (g5 6 k) ∧ (g5 6 k) ≤ 2 := I_9.1 6 k
      have m_49 : g5 6 k = g4 6 k := by rw [e_8]; exact zi_u_ne (by decide)
      have m_50 : 0 ≤ (g4 6 k) ∧ (g4 6 k) ≤ 2 := I_6.1 6 k
      have m_51 : g4 6 k = g3 6 k := by rw [e_5]; exact zi_u_ne (by decide)
      have m_52 : 0 ≤ (g3 6 k) ∧ (g3 6 k) ≤ 2 := I_3.1 6 k
      have m_53 : g3 6 k = g 6 k := by rw [e_2]; exact zi_u_ne (by decide)
      have m_54 : 0 ≤ (g 6 k) ∧ (g 6 k) ≤ 2 := I.1 6 k
      have m_55 : (k = g 2 8 → g6 6 k = 0) ∧ (¬ k = g 2 8 → g6 6 k = g5 6 k) := by rw [e_11]; exact zi_u_if
      omega
    have z_72 : ∀ k : Int, 0 ≤ k ∧ k < 10 → (g 2 8 < 10 ∧ k = g 2 8 → g9 7 k = 0) ∧ (¬ (g 2 8 < 10 ∧ k = g 2 8) → g9 7 k = g 7 k) := by
      intro k hk
      have m_57 : 0 ≤ (g9 7 k) ∧ (g9 7 k) ≤ 999 := I_21.1 7 k
      have m_58 : g9 7 k = g8 7 k := by rw [e_20]; exact zi_u_ne (by decide)
      have m_59 : 0 ≤ (g8 7 k) ∧ (g8 7 k) ≤ 999 := I_18.1 7 k
      have m_60 : g8 7 k = g7 7 k := by rw [e_17]; exact zi_u_ne (by decide)
      have m_61 : 0 ≤ (g7 7 k) ∧ (g7 7 k) ≤ 999 := I_15.1 7 k
      have m_62 : 0 ≤ (g6 7 k) ∧ (g6 7 k) ≤ 999 := I_12.1 7 k
      have m_63 : g6 7 k = g5 7 k := by rw [e_11]; exact zi_u_ne (by decide)
      have m_64 : 0 ≤ (g5 7 k) ∧ (g5 7 k) ≤ 999 := I_9.1 7 k
      have m_65 : g5 7 k = g4 7 k := by rw [e_8]; exact zi_u_ne (by decide)
      have m_66 : 0 ≤ (g4 7 k) ∧ (g4 7 k) ≤ 999 := I_6.1 7 k
      have m_67 : g4 7 k = g3 7 k := by rw [e_5]; exact zi_u_ne (by decide)
      have m_68 : 0 ≤ (g3 7 k) ∧ (g3 7 k) ≤ 999 := I_3.1 7 k
      have m_69 : g3 7 k = g 7 k := by rw [e_2]; exact zi_u_ne (by decide)
      have m_70 : 0 ≤ (g 7 k) ∧ (g 7 k) ≤ 999 := I.1 7 k
      have m_71 : (k = g 2 8 → g7 7 k = 0) ∧ (¬ k = g 2 8 → g7 7 k = g6 7 k) := by rw [e_14]; exact zi_u_if
      omega
    have z_88 : ∀ k : Int, 0 ≤ k ∧ k < 10 → (g 2 8 < 10 ∧ k = g 2 8 → g9 8 k = 0) ∧ (¬ (g 2 8 < 10 ∧ k = g 2 8) → g9 8 k = g 8 k) := by
      intro k hk
      have m_73 : 0 ≤ (g9 8 k) ∧ (g9 8 k) ≤ 20 := I_21.1 8 k
      have m_74 : g9 8 k = g8 8 k := by rw [e_20]; exact zi_u_ne (by decide)
      have m_75 : 0 ≤ (g8 8 k) ∧ (g8 8 k) ≤ 20 := I_18.1 8 k
      have m_76 : 0 ≤ (g7 8 k) ∧ (g7 8 k) ≤ 20 := I_15.1 8 k
      have m_77 : g7 8 k = g6 8 k := by rw [e_14]; exact zi_u_ne (by decide)
      have m_78 : 0 ≤ (g6 8 k) ∧ (g6 8 k) ≤ 20 := I_12.1 8 k
      have m_79 : g6 8 k = g5 8 k := by rw [e_11]; exact zi_u_ne (by decide)
      have m_80 : 0 ≤ (g5 8 k) ∧ (g5 8 k) ≤ 20 := I_9.1 8 k
      have m_81 : g5 8 k = g4 8 k := by rw [e_8]; exact zi_u_ne (by decide)
      have m_82 : 0 ≤ (g4 8 k) ∧ (g4 8 k) ≤ 20 := I_6.1 8 k
      have m_83 : g4 8 k = g3 8 k := by rw [e_5]; exact zi_u_ne (by decide)
      have m_84 : 0 ≤ (g3 8 k) ∧ (g3 8 k) ≤ 20 := I_3.1 8 k
      have m_85 : g3 8 k = g 8 k := by rw [e_2]; exact zi_u_ne (by decide)
      have m_86 : 0 ≤ (g 8 k) ∧ (g 8 k) ≤ 20 := I.1 8 k
      have m_87 : (k = g 2 8 → g8 8 k = 0) ∧ (¬ k = g 2 8 → g8 8 k = g7 8 k) := by rw [e_17]; exact zi_u_if
      omega
    have z_104 : ∀ k : Int, 0 ≤ k ∧ k < 10 → (g 2 8 < 10 ∧ k = g 2 8 → g9 3 k = l1) ∧ (¬ (g 2 8 < 10 ∧ k = g 2 8) → g9 3 k = g 3 k) := by
      intro k hk
      have m_89 : 0 ≤ (g9 3 k) ∧ (g9 3 k) ≤ 5 := I_21.1 3 k
      have m_90 : g9 3 k = g8 3 k := by rw [e_20]; exact zi_u_ne (by decide)
      have m_91 : 0 ≤ (g8 3 k) ∧ (g8 3 k) ≤ 5 := I_18.1 3 k
      have m_92 : g8 3 k = g7 3 k := by rw [e_17]; exact zi_u_ne (by decide)
      have m_93 : 0 ≤ (g7 3 k) ∧ (g7 3 k) ≤ 5 := I_15.1 3 k
      have m_94 : g7 3 k = g6 3 k := by rw [e_14]; exact zi_u_ne (by decide)
      have m_95 : 0 ≤ (g6 3 k) ∧ (g6 3 k) ≤ 5 := I_12.1 3 k
      have m_96 : g6 3 k = g5 3 k := by rw [e_11]; exact zi_u_ne (by decide)
      have m_97 : 0 ≤ (g5 3 k) ∧ (g5 3 k) ≤ 5 := I_9.1 3 k
      have m_98 : g5 3 k = g4 3 k := by rw [e_8]; exact zi_u_ne (by decide)
      have m_99 : 0 ≤ (g4 3 k) ∧ (g4 3 k) ≤ 5 := I_6.1 3 k
      have m_100 : g4 3 k = g3 3 k := by rw [e_5]; exact zi_u_ne (by decide)
      have m_101 : 0 ≤ (g3 3 k) ∧ (g3 3 k) ≤ 5 := I_3.1 3 k
      have m_102 : 0 ≤ (g 3 k) ∧ (g 3 k) ≤ 5 := I.1 3 k
      have m_103 : (k = g 2 8 → g3 3 k = l1) ∧ (¬ k = g 2 8 → g3 3 k = g 3 k) := by rw [e_2]; exact zi_u_if
      omega
    have z_120 : ∀ k : Int, 0 ≤ k ∧ k < 10 → (g 2 8 < 10 ∧ k = g 2 8 → g9 4 k = l2) ∧ (¬ (g 2 8 < 10 ∧ k = g 2 8) → g9 4 k = g 4 k) := by
      intro k hk
      have m_105 : 0 ≤ (g9 4 k) ∧ (g9 4 k) ≤ 3 := I_21.1 4 k
      have m_106 : g9 4 k = g8 4 k := by rw [e_20]; exact zi_u_ne (by decide)
      have m_107 : 0 ≤ (g8 4 k) ∧ (g8 4 k) ≤ 3 := I_18.1 4 k
      have m_108 : g8 4 k = g7 4 k := by rw [e_17]; exact zi_u_ne (by decide)
      have m_109 : 0 ≤ (g7 4 k) ∧ (g7 4 k) ≤ 3 := I_15.1 4 k
      have m_110 : g7 4 k = g6 4 k := by rw [e_14]; exact zi_u_ne (by decide)
      have m_111 : 0 ≤ (g6 4 k) ∧ (g6 4 k) ≤ 3 := I_12.1 4 k
      have m_112 : g6 4 k = g5 4 k := by rw [e_11]; exact zi_u_ne (by decide)
      have m_113 : 0 ≤ (g5 4 k) ∧ (g5 4 k) ≤ 3 := I_9.1 4 k
      have m_114 : g5 4 k = g4 4 k := by rw [e_8]; exact zi_u_ne (by decide)
      have m_115 : 0 ≤ (g4 4 k) ∧ (g4 4 k) ≤ 3 := I_6.1 4 k
      have m_116 : 0 ≤ (g3 4 k) ∧ (g3 4 k) ≤ 3 := I_3.1 4 k
      have m_117 : g3 4 k = g 4 k := by rw [e_2]; exact zi_u_ne (by decide)
      have m_118 : 0 ≤ (g 4 k) ∧ (g 4 k) ≤ 3 := I.1 4 k
      have m_119 : (k = g 2 8 → g4 4 k = l2) ∧ (¬ k = g 2 8 → g4 4 k = g3 4 k) := by rw [e_5]; exact zi_u_if
      omega
    exact hQ _ _ I_21 F_22 ⟨by omega, by omega⟩ (by omega) z_40 z_56 z_72 z_88 z_104 z_120
  · have z_122 : ∀ k : Int, 0 ≤ k ∧ k < 10 → (g 2 8 < 10 ∧ k = g 2 8 → g 5 k = l3) ∧ (¬ (g 2 8 < 10 ∧ k = g 2 8) → g 5 k = g 5 k) := by
      intro k hk
      have m_121 : 0 ≤ (g 5 k) ∧ (g 5 k) ≤ 99 := I.1 5 k
      omega
    have z_124 : ∀ k : Int, 0 ≤ k ∧ k < 10 → (g 2 8 < 10 ∧ k = g 2 8 → g 6 k = 0) ∧ (¬ (g 2 8 < 10 ∧ k = g 2 8) → g 6 k = g 6 k) := by
      intro k hk
      have m_123 : 0 ≤ (g 6 k) ∧ (g 6 k) ≤ 2 := I.1 6 k
      omega
    have z_126 : ∀ k : Int, 0 ≤ k ∧ k < 10 → (g 2 8 < 10 ∧ k = g 2 8 → g 7 k = 0) ∧ (¬ (g 2 8 < 10 ∧ k = g 2 8) → g 7 k = g 7 k) := by
      intro k hk
      have m_125 : 0 ≤ (g 7 k) ∧ (g 7 k) ≤ 999 := I.1 7 k
      omega
    have z_128 : ∀ k : Int, 0 ≤ k ∧ k < 10 → (g 2 8 < 10 ∧ k = g 2 8 → g 8 k = 0) ∧ (¬ (g 2 8 < 10 ∧ k = g 2 8) → g 8 k = g 8 k) := by
      intro k hk
      have m_127 : 0 ≤ (g 8 k) ∧ (g 8 k) ≤ 20 := I.1 8 k
      omega
    have z_130 : ∀ k : Int, 0 ≤ k ∧ k < 10 → (g 2 8 < 10 ∧ k = g 2 8 → g 3 k = l1) ∧ (¬ (g 2 8 < 10 ∧ k = g 2 8) → g 3 k = g 3 k) := by
      intro k hk
      have m_129 : 0 ≤ (g 3 k) ∧ (g 3 k) ≤ 5 := I.1 3 k
      omega
    have z_132 : ∀ k : Int, 0 ≤ k ∧ k < 10 → (g 2 8 < 10 ∧ k = g 2 8 → g 4 k = l2) ∧ (¬ (g 2 8 < 10 ∧ k = g 2 8) → g 4 k = g 4 k) := by
      intro k hk
      have m_131 : 0 ≤ (g 4 k) ∧ (g 4 k) ≤ 3 := I.1 4 k
      omega
    exact hQ _ _ I (zk_f0 _) ⟨by omega, by omega⟩ (by omega) z_122 z_124 z_126 z_128 z_130 z_132
-- SpoutNews.spout(III)I
set_option maxRecDepth 100000 in
set_option maxHeartbeats 4000000 in
theorem k_S_spout {l1 : Int} {l2 : Int} {l3 : Int} {g : zi_M} {Q : Int → zi_M → Prop} (I : zk_I g) (p1 : (-2147483648) ≤ l1 ∧ l1 ≤ 2147483647) (p2 : (-2147483648) ≤ l2 ∧ l2 ≤ 2147483647) (p3 : (-2147483648) ≤ l3 ∧ l3 ≤ 2147483647) (hQ : ∀ (v : Int) (g' : zi_M), zk_I g' → zk_fr fr_S_spout g g' → ((-1) ≤ v ∧ v ≤ 9) → (0 ≤ l1 ∧ l1 ≤ 5 ∧ 0 ≤ l2 ∧ l2 ≤ 3 ∧ 0 ≤ l3 ∧ l3 ≤ 99 ∧ g 2 8 < 10 → v = g 2 8 ∧ g' 2 8 = g 2 8 + 1) → (¬ (0 ≤ l1 ∧ l1 ≤ 5 ∧ 0 ≤ l2 ∧ l2 ≤ 3 ∧ 0 ≤ l3 ∧ l3 ≤ 99 ∧ g 2 8 < 10) → v = -1 ∧ g' 2 8 = g 2 8) → (¬ v = -1 → g' 91 1 = 0) → (v = -1 → g' = g) → (∀ k : Int, 0 ≤ k ∧ k < 10 → (¬ v = -1 ∧ k = g 2 8 → g' 5 k = l3) ∧ (¬ (¬ v = -1 ∧ k = g 2 8) → g' 5 k = g 5 k)) → (∀ k : Int, 0 ≤ k ∧ k < 10 → (¬ v = -1 ∧ k = g 2 8 → g' 6 k = 0) ∧ (¬ (¬ v = -1 ∧ k = g 2 8) → g' 6 k = g 6 k)) → (∀ k : Int, 0 ≤ k ∧ k < 10 → (¬ v = -1 ∧ k = g 2 8 → g' 7 k = 0) ∧ (¬ (¬ v = -1 ∧ k = g 2 8) → g' 7 k = g 7 k)) → (∀ k : Int, 0 ≤ k ∧ k < 10 → (¬ v = -1 ∧ k = g 2 8 → g' 8 k = 0) ∧ (¬ (¬ v = -1 ∧ k = g 2 8) → g' 8 k = g 8 k)) → (∀ k : Int, 0 ≤ k ∧ k < 10 → (¬ v = -1 ∧ k = g 2 8 → g' 3 k = l1) ∧ (¬ (¬ v = -1 ∧ k = g 2 8) → g' 3 k = g 3 k)) → (∀ k : Int, 0 ≤ k ∧ k < 10 → (¬ v = -1 ∧ k = g 2 8 → g' 4 k = l2) ∧ (¬ (¬ v = -1 ∧ k = g 2 8) → g' 4 k = g 4 k)) → Q v g') : w_S_spout l1 l2 l3 g Q := by
  unfold w_S_spout
  refine ⟨⟨by omega, by omega⟩, ?_⟩
  refine ⟨fun c17 => ?_, fun c17 => ?_⟩
  · have m_1 : 0 ≤ (g 2 8) ∧ (g 2 8) ≤ 10 := I.1 2 8
    have m_2 : 0 ≤ (g 91 1) ∧ (g 91 1) ≤ 6 := I.1 91 1
    have z_4 : ∀ k : Int, 0 ≤ k ∧ k < 10 → (¬ ((-1) : Int) = -1 ∧ k = g 2 8 → g 5 k = l3) ∧ (¬ (¬ ((-1) : Int) = -1 ∧ k = g 2 8) → g 5 k = g 5 k) := by
      intro k hk
      have m_3 : 0 ≤ (g 5 k) ∧ (g 5 k) ≤ 99 := I.1 5 k
      omega
    have z_6 : ∀ k : Int, 0 ≤ k ∧ k < 10 → (¬ ((-1) : Int) = -1 ∧ k = g 2 8 → g 6 k = 0) ∧ (¬ (¬ ((-1) : Int) = -1 ∧ k = g 2 8) → g 6 k = g 6 k) := by
      intro k hk
      have m_5 : 0 ≤ (g 6 k) ∧ (g 6 k) ≤ 2 := I.1 6 k
      omega
    have z_8 : ∀ k : Int, 0 ≤ k ∧ k < 10 → (¬ ((-1) : Int) = -1 ∧ k = g 2 8 → g 7 k = 0) ∧ (¬ (¬ ((-1) : Int) = -1 ∧ k = g 2 8) → g 7 k = g 7 k) := by
      intro k hk
      have m_7 : 0 ≤ (g 7 k) ∧ (g 7 k) ≤ 999 := I.1 7 k
      omega
    have z_10 : ∀ k : Int, 0 ≤ k ∧ k < 10 → (¬ ((-1) : Int) = -1 ∧ k = g 2 8 → g 8 k = 0) ∧ (¬ (¬ ((-1) : Int) = -1 ∧ k = g 2 8) → g 8 k = g 8 k) := by
      intro k hk
      have m_9 : 0 ≤ (g 8 k) ∧ (g 8 k) ≤ 20 := I.1 8 k
      omega
    have z_12 : ∀ k : Int, 0 ≤ k ∧ k < 10 → (¬ ((-1) : Int) = -1 ∧ k = g 2 8 → g 3 k = l1) ∧ (¬ (¬ ((-1) : Int) = -1 ∧ k = g 2 8) → g 3 k = g 3 k) := by
      intro k hk
      have m_11 : 0 ≤ (g 3 k) ∧ (g 3 k) ≤ 5 := I.1 3 k
      omega
    have z_14 : ∀ k : Int, 0 ≤ k ∧ k < 10 → (¬ ((-1) : Int) = -1 ∧ k = g 2 8 → g 4 k = l2) ∧ (¬ (¬ ((-1) : Int) = -1 ∧ k = g 2 8) → g 4 k = g 4 k) := by
      intro k hk
      have m_13 : 0 ≤ (g 4 k) ∧ (g 4 k) ≤ 3 := I.1 4 k
      omega
    exact hQ _ _ I (zk_f0 _) ⟨by omega, by omega⟩ (by omega) (by omega) (by omega) (by intro hv; first | rfl | assumption | (exfalso; omega)) z_4 z_6 z_8 z_10 z_12 z_14
  · refine ⟨fun c16 => ?_, fun c16 => ?_⟩
    · have m_15 : 0 ≤ (g 2 8) ∧ (g 2 8) ≤ 10 := I.1 2 8
      have m_16 : 0 ≤ (g 91 1) ∧ (g 91 1) ≤ 6 := I.1 91 1
      have z_18 : ∀ k : Int, 0 ≤ k ∧ k < 10 → (¬ ((-1) : Int) = -1 ∧ k = g 2 8 → g 5 k = l3) ∧ (¬ (¬ ((-1) : Int) = -1 ∧ k = g 2 8) → g 5 k = g 5 k) := by
        intro k hk
        have m_17 : 0 ≤ (g 5 k) ∧ (g 5 k) ≤ 99 := I.1 5 k
        omega
      have z_20 : ∀ k : Int, 0 ≤ k ∧ k < 10 → (¬ ((-1) : Int) = -1 ∧ k = g 2 8 → g 6 k = 0) ∧ (¬ (¬ ((-1) : Int) = -1 ∧ k = g 2 8) → g 6 k = g 6 k) := by
        intro k hk
        have m_19 : 0 ≤ (g 6 k) ∧ (g 6 k) ≤ 2 := I.1 6 k
        omega
      have z_22 : ∀ k : Int, 0 ≤ k ∧ k < 10 → (¬ ((-1) : Int) = -1 ∧ k = g 2 8 → g 7 k = 0) ∧ (¬ (¬ ((-1) : Int) = -1 ∧ k = g 2 8) → g 7 k = g 7 k) := by
        intro k hk
        have m_21 : 0 ≤ (g 7 k) ∧ (g 7 k) ≤ 999 := I.1 7 k
        omega
      have z_24 : ∀ k : Int, 0 ≤ k ∧ k < 10 → (¬ ((-1) : Int) = -1 ∧ k = g 2 8 → g 8 k = 0) ∧ (¬ (¬ ((-1) : Int) = -1 ∧ k = g 2 8) → g 8 k = g 8 k) := by
        intro k hk
        have m_23 : 0 ≤ (g 8 k) ∧ (g 8 k) ≤ 20 := I.1 8 k
        omega
      have z_26 : ∀ k : Int, 0 ≤ k ∧ k < 10 → (¬ ((-1) : Int) = -1 ∧ k = g 2 8 → g 3 k = l1) ∧ (¬ (¬ ((-1) : Int) = -1 ∧ k = g 2 8) → g 3 k = g 3 k) := by
        intro k hk
        have m_25 : 0 ≤ (g 3 k) ∧ (g 3 k) ≤ 5 := I.1 3 k
        omega
      have z_28 : ∀ k : Int, 0 ≤ k ∧ k < 10 → (¬ ((-1) : Int) = -1 ∧ k = g 2 8 → g 4 k = l2) ∧ (¬ (¬ ((-1) : Int) = -1 ∧ k = g 2 8) → g 4 k = g 4 k) := by
        intro k hk
        have m_27 : 0 ≤ (g 4 k) ∧ (g 4 k) ≤ 3 := I.1 4 k
        omega
      exact hQ _ _ I (zk_f0 _) ⟨by omega, by omega⟩ (by omega) (by omega) (by omega) (by intro hv; first | rfl | assumption | (exfalso; omega)) z_18 z_20 z_22 z_24 z_26 z_28
    · refine ⟨⟨by omega, by omega⟩, ?_⟩
      refine ⟨fun c15 => ?_, fun c15 => ?_⟩
      · have m_29 : 0 ≤ (g 2 8) ∧ (g 2 8) ≤ 10 := I.1 2 8
        have m_30 : 0 ≤ (g 91 1) ∧ (g 91 1) ≤ 6 := I.1 91 1
        have z_32 : ∀ k : Int, 0 ≤ k ∧ k < 10 → (¬ ((-1) : Int) = -1 ∧ k = g 2 8 → g 5 k = l3) ∧ (¬ (¬ ((-1) : Int) = -1 ∧ k = g 2 8) → g 5 k = g 5 k) := by
          intro k hk
          have m_31 : 0 ≤ (g 5 k) ∧ (g 5 k) ≤ 99 := I.1 5 k
          omega
        have z_34 : ∀ k : Int, 0 ≤ k ∧ k < 10 → (¬ ((-1) : Int) = -1 ∧ k = g 2 8 → g 6 k = 0) ∧ (¬ (¬ ((-1) : Int) = -1 ∧ k = g 2 8) → g 6 k = g 6 k) := by
          intro k hk
          have m_33 : 0 ≤ (g 6 k) ∧ (g 6 k) ≤ 2 := I.1 6 k
          omega
        have z_36 : ∀ k : Int, 0 ≤ k ∧ k < 10 → (¬ ((-1) : Int) = -1 ∧ k = g 2 8 → g 7 k = 0) ∧ (¬ (¬ ((-1) : Int) = -1 ∧ k = g 2 8) → g 7 k = g 7 k) := by
          intro k hk
          have m_35 : 0 ≤ (g 7 k) ∧ (g 7 k) ≤ 999 := I.1 7 k
          omega
        have z_38 : ∀ k : Int, 0 ≤ k ∧ k < 10 → (¬ ((-1) : Int) = -1 ∧ k = g 2 8 → g 8 k = 0) ∧ (¬ (¬ ((-1) : Int) = -1 ∧ k = g 2 8) → g 8 k = g 8 k) := by
          intro k hk
          have m_37 : 0 ≤ (g 8 k) ∧ (g 8 k) ≤ 20 := I.1 8 k
          omega
        have z_40 : ∀ k : Int, 0 ≤ k ∧ k < 10 → (¬ ((-1) : Int) = -1 ∧ k = g 2 8 → g 3 k = l1) ∧ (¬ (¬ ((-1) : Int) = -1 ∧ k = g 2 8) → g 3 k = g 3 k) := by
          intro k hk
          have m_39 : 0 ≤ (g 3 k) ∧ (g 3 k) ≤ 5 := I.1 3 k
          omega
        have z_42 : ∀ k : Int, 0 ≤ k ∧ k < 10 → (¬ ((-1) : Int) = -1 ∧ k = g 2 8 → g 4 k = l2) ∧ (¬ (¬ ((-1) : Int) = -1 ∧ k = g 2 8) → g 4 k = g 4 k) := by
          intro k hk
          have m_41 : 0 ≤ (g 4 k) ∧ (g 4 k) ≤ 3 := I.1 4 k
          omega
        exact hQ _ _ I (zk_f0 _) ⟨by omega, by omega⟩ (by omega) (by omega) (by omega) (by intro hv; first | rfl | assumption | (exfalso; omega)) z_32 z_34 z_36 z_38 z_40 z_42
      · refine ⟨fun c14 => ?_, fun c14 => ?_⟩
        · have m_43 : 0 ≤ (g 2 8) ∧ (g 2 8) ≤ 10 := I.1 2 8
          have m_44 : 0 ≤ (g 91 1) ∧ (g 91 1) ≤ 6 := I.1 91 1
          have z_46 : ∀ k : Int, 0 ≤ k ∧ k < 10 → (¬ ((-1) : Int) = -1 ∧ k = g 2 8 → g 5 k = l3) ∧ (¬ (¬ ((-1) : Int) = -1 ∧ k = g 2 8) → g 5 k = g 5 k) := by
            intro k hk
            have m_45 : 0 ≤ (g 5 k) ∧ (g 5 k) ≤ 99 := I.1 5 k
            omega
          have z_48 : ∀ k : Int, 0 ≤ k ∧ k < 10 → (¬ ((-1) : Int) = -1 ∧ k = g 2 8 → g 6 k = 0) ∧ (¬ (¬ ((-1) : Int) = -1 ∧ k = g 2 8) → g 6 k = g 6 k) := by
            intro k hk
            have m_47 : 0 ≤ (g 6 k) ∧ (g 6 k) ≤ 2 := I.1 6 k
            omega
          have z_50 : ∀ k : Int, 0 ≤ k ∧ k < 10 → (¬ ((-1) : Int) = -1 ∧ k = g 2 8 → g 7 k = 0) ∧ (¬ (¬ ((-1) : Int) = -1 ∧ k = g 2 8) → g 7 k = g 7 k) := by
            intro k hk
            have m_49 : 0 ≤ (g 7 k) ∧ (g 7 k) ≤ 999 := I.1 7 k
            omega
          have z_52 : ∀ k : Int, 0 ≤ k ∧ k < 10 → (¬ ((-1) : Int) = -1 ∧ k = g 2 8 → g 8 k = 0) ∧ (¬ (¬ ((-1) : Int) = -1 ∧ k = g 2 8) → g 8 k = g 8 k) := by
            intro k hk
            have m_51 : 0 ≤ (g 8 k) ∧ (g 8 k) ≤ 20 := I.1 8 k
            omega
          have z_54 : ∀ k : Int, 0 ≤ k ∧ k < 10 → (¬ ((-1) : Int) = -1 ∧ k = g 2 8 → g 3 k = l1) ∧ (¬ (¬ ((-1) : Int) = -1 ∧ k = g 2 8) → g 3 k = g 3 k) := by
            intro k hk
            have m_53 : 0 ≤ (g 3 k) ∧ (g 3 k) ≤ 5 := I.1 3 k
            omega
          have z_56 : ∀ k : Int, 0 ≤ k ∧ k < 10 → (¬ ((-1) : Int) = -1 ∧ k = g 2 8 → g 4 k = l2) ∧ (¬ (¬ ((-1) : Int) = -1 ∧ k = g 2 8) → g 4 k = g 4 k) := by
            intro k hk
            have m_55 : 0 ≤ (g 4 k) ∧ (g 4 k) ≤ 3 := I.1 4 k
            omega
          exact hQ _ _ I (zk_f0 _) ⟨by omega, by omega⟩ (by omega) (by omega) (by omega) (by intro hv; first | rfl | assumption | (exfalso; omega)) z_46 z_48 z_50 z_52 z_54 z_56
        · refine ⟨⟨by omega, by omega⟩, ?_⟩
          refine ⟨fun c13 => ?_, fun c13 => ?_⟩
          · have m_57 : 0 ≤ (g 2 8) ∧ (g 2 8) ≤ 10 := I.1 2 8
            have m_58 : 0 ≤ (g 91 1) ∧ (g 91 1) ≤ 6 := I.1 91 1
            have z_60 : ∀ k : Int, 0 ≤ k ∧ k < 10 → (¬ ((-1) : Int) = -1 ∧ k = g 2 8 → g 5 k = l3) ∧ (¬ (¬ ((-1) : Int) = -1 ∧ k = g 2 8) → g 5 k = g 5 k) := by
              intro k hk
              have m_59 : 0 ≤ (g 5 k) ∧ (g 5 k) ≤ 99 := I.1 5 k
              omega
            have z_62 : ∀ k : Int, 0 ≤ k ∧ k < 10 → (¬ ((-1) : Int) = -1 ∧ k = g 2 8 → g 6 k = 0) ∧ (¬ (¬ ((-1) : Int) = -1 ∧ k = g 2 8) → g 6 k = g 6 k) := by
              intro k hk
              have m_61 : 0 ≤ (g 6 k) ∧ (g 6 k) ≤ 2 := I.1 6 k
              omega
            have z_64 : ∀ k : Int, 0 ≤ k ∧ k < 10 → (¬ ((-1) : Int) = -1 ∧ k = g 2 8 → g 7 k = 0) ∧ (¬ (¬ ((-1) : Int) = -1 ∧ k = g 2 8) → g 7 k = g 7 k) := by
              intro k hk
              have m_63 : 0 ≤ (g 7 k) ∧ (g 7 k) ≤ 999 := I.1 7 k
              omega
            have z_66 : ∀ k : Int, 0 ≤ k ∧ k < 10 → (¬ ((-1) : Int) = -1 ∧ k = g 2 8 → g 8 k = 0) ∧ (¬ (¬ ((-1) : Int) = -1 ∧ k = g 2 8) → g 8 k = g 8 k) := by
              intro k hk
              have m_65 : 0 ≤ (g 8 k) ∧ (g 8 k) ≤ 20 := I.1 8 k
              omega
            have z_68 : ∀ k : Int, 0 ≤ k ∧ k < 10 → (¬ ((-1) : Int) = -1 ∧ k = g 2 8 → g 3 k = l1) ∧ (¬ (¬ ((-1) : Int) = -1 ∧ k = g 2 8) → g 3 k = g 3 k) := by
              intro k hk
              have m_67 : 0 ≤ (g 3 k) ∧ (g 3 k) ≤ 5 := I.1 3 k
              omega
            have z_70 : ∀ k : Int, 0 ≤ k ∧ k < 10 → (¬ ((-1) : Int) = -1 ∧ k = g 2 8 → g 4 k = l2) ∧ (¬ (¬ ((-1) : Int) = -1 ∧ k = g 2 8) → g 4 k = g 4 k) := by
              intro k hk
              have m_69 : 0 ≤ (g 4 k) ∧ (g 4 k) ≤ 3 := I.1 4 k
              omega
            exact hQ _ _ I (zk_f0 _) ⟨by omega, by omega⟩ (by omega) (by omega) (by omega) (by intro hv; first | rfl | assumption | (exfalso; omega)) z_60 z_62 z_64 z_66 z_68 z_70
          · refine ⟨fun c12 => ?_, fun c12 => ?_⟩
            · have m_71 : 0 ≤ (g 2 8) ∧ (g 2 8) ≤ 10 := I.1 2 8
              refine ⟨⟨by omega, by omega⟩, ?_⟩
              refine ⟨fun c11 => ?_, fun c11 => ?_⟩
              · refine k_Past_forget I (fun g6 I_73 F_74 b_72 => ?_)
                have F_75 : zk_fr fr_S_spout g g6 := zk_ft (zk_f0 _) F_74 (fun a i => (fun h => (Or.inr (Or.inr (Or.inr (Or.inr (Or.inr (Or.inr (Or.inr h)))))))))
                have m_76 : 0 ≤ (g6 2 8) ∧ (g6 2 8) ≤ 10 := I_73.1 2 8
                have m_77 : g6 2 8 = g 2 8 := F_74 _ _ (by unfold fr_Past_forget; omega)
                refine k_World_addSpout I_73 ⟨by omega, by omega⟩ ⟨by omega, by omega⟩ ⟨by omega, by omega⟩ (fun v8 g9 I_86 F_87 b_78 b_79 b_80 b_81 b_82 b_83 b_84 b_85 => ?_)
                have F_88 : zk_fr fr_S_spout g g9 := zk_ft F_75 F_87 (fun a i => (fun h => Or.elim h (fun h => (Or.inl h)) (fun h => Or.elim h (fun h => (Or.inr (Or.inl h))) (fun h => Or.elim h (fun h => (Or.inr (Or.inr (Or.inl h)))) (fun h => Or.elim h (fun h => (Or.inr (Or.inr (Or.inr (Or.inl h))))) (fun h => Or.elim h (fun h => (Or.inr (Or.inr (Or.inr (Or.inr (Or.inl h)))))) (fun h => Or.elim h (fun h => (Or.inr (Or.inr (Or.inr (Or.inr (Or.inr (Or.inl h))))))) (fun h => (Or.inr (Or.inr (Or.inr (Or.inr (Or.inr (Or.inr (Or.inl h)))))))))))))))
                have m_89 : 0 ≤ (g9 2 8) ∧ (g9 2 8) ≤ 10 := I_86.1 2 8
                have m_90 : 0 ≤ (g9 91 1) ∧ (g9 91 1) ≤ 6 := I_86.1 91 1
                have m_91 : g9 91 1 = g6 91 1 := F_87 _ _ (by unfold fr_World_addSpout; omega)
                have m_92 : 0 ≤ (g6 91 1) ∧ (g6 91 1) ≤ 6 := I_73.1 91 1
                have z_98 : ∀ k : Int, 0 ≤ k ∧ k < 10 → (¬ (v8 : Int) = -1 ∧ k = g 2 8 → g9 5 k = l3) ∧ (¬ (¬ (v8 : Int) = -1 ∧ k = g 2 8) → g9 5 k = g 5 k) := by
                  intro k hk
                  have m_93 : 0 ≤ (g9 5 k) ∧ (g9 5 k) ≤ 99 := I_86.1 5 k
                  have m_94 := b_80 k hk
                  have m_95 : 0 ≤ (g6 5 k) ∧ (g6 5 k) ≤ 99 := I_73.1 5 k
                  have m_96 : g6 5 k = g 5 k := F_74 _ _ (by unfold fr_Past_forget; omega)
                  have m_97 : 0 ≤ (g 5 k) ∧ (g 5 k) ≤ 99 := I.1 5 k
                  omega
                have z_104 : ∀ k : Int, 0 ≤ k ∧ k < 10 → (¬ (v8 : Int) = -1 ∧ k = g 2 8 → g9 6 k = 0) ∧ (¬ (¬ (v8 : Int) = -1 ∧ k = g 2 8) → g9 6 k = g 6 k) := by
                  intro k hk
                  have m_99 : 0 ≤ (g9 6 k) ∧ (g9 6 k) ≤ 2 := I_86.1 6 k
                  have m_100 := b_81 k hk
                  have m_101 : 0 ≤ (g6 6 k) ∧ (g6 6 k) ≤ 2 := I_73.1 6 k
                  have m_102 : g6 6 k = g 6 k := F_74 _ _ (by unfold fr_Past_forget; omega)
                  have m_103 : 0 ≤ (g 6 k) ∧ (g 6 k) ≤ 2 := I.1 6 k
                  omega
                have z_110 : ∀ k : Int, 0 ≤ k ∧ k < 10 → (¬ (v8 : Int) = -1 ∧ k = g 2 8 → g9 7 k = 0) ∧ (¬ (¬ (v8 : Int) = -1 ∧ k = g 2 8) → g9 7 k = g 7 k) := by
                  intro k hk
                  have m_105 : 0 ≤ (g9 7 k) ∧ (g9 7 k) ≤ 999 := I_86.1 7 k
                  have m_106 := b_82 k hk
                  have m_107 : 0 ≤ (g6 7 k) ∧ (g6 7 k) ≤ 999 := I_73.1 7 k
                  have m_108 : g6 7 k = g 7 k := F_74 _ _ (by unfold fr_Past_forget; omega)
                  have m_109 : 0 ≤ (g 7 k) ∧ (g 7 k) ≤ 999 := I.1 7 k
                  omega
                have z_116 : ∀ k : Int, 0 ≤ k ∧ k < 10 → (¬ (v8 : Int) = -1 ∧ k = g 2 8 → g9 8 k = 0) ∧ (¬ (¬ (v8 : Int) = -1 ∧ k = g 2 8) → g9 8 k = g 8 k) := by
                  intro k hk
                  have m_111 : 0 ≤ (g9 8 k) ∧ (g9 8 k) ≤ 20 := I_86.1 8 k
                  have m_112 := b_83 k hk
                  have m_113 : 0 ≤ (g6 8 k) ∧ (g6 8 k) ≤ 20 := I_73.1 8 k
                  have m_114 : g6 8 k = g 8 k := F_74 _ _ (by unfold fr_Past_forget; omega)
                  have m_115 : 0 ≤ (g 8 k) ∧ (g 8 k) ≤ 20 := I.1 8 k
                  omega
                have z_122 : ∀ k : Int, 0 ≤ k ∧ k < 10 → (¬ (v8 : Int) = -1 ∧ k = g 2 8 → g9 3 k = l1) ∧ (¬ (¬ (v8 : Int) = -1 ∧ k = g 2 8) → g9 3 k = g 3 k) := by
                  intro k hk
                  have m_117 : 0 ≤ (g9 3 k) ∧ (g9 3 k) ≤ 5 := I_86.1 3 k
                  have m_118 := b_84 k hk
                  have m_119 : 0 ≤ (g6 3 k) ∧ (g6 3 k) ≤ 5 := I_73.1 3 k
                  have m_120 : g6 3 k = g 3 k := F_74 _ _ (by unfold fr_Past_forget; omega)
                  have m_121 : 0 ≤ (g 3 k) ∧ (g 3 k) ≤ 5 := I.1 3 k
                  omega
                have z_128 : ∀ k : Int, 0 ≤ k ∧ k < 10 → (¬ (v8 : Int) = -1 ∧ k = g 2 8 → g9 4 k = l2) ∧ (¬ (¬ (v8 : Int) = -1 ∧ k = g 2 8) → g9 4 k = g 4 k) := by
                  intro k hk
                  have m_123 : 0 ≤ (g9 4 k) ∧ (g9 4 k) ≤ 3 := I_86.1 4 k
                  have m_124 := b_85 k hk
                  have m_125 : 0 ≤ (g6 4 k) ∧ (g6 4 k) ≤ 3 := I_73.1 4 k
                  have m_126 : g6 4 k = g 4 k := F_74 _ _ (by unfold fr_Past_forget; omega)
                  have m_127 : 0 ≤ (g 4 k) ∧ (g 4 k) ≤ 3 := I.1 4 k
                  omega
                exact hQ _ _ I_86 F_88 ⟨by omega, by omega⟩ (by omega) (by omega) (by omega) (by intro hv; first | rfl | assumption | (exfalso; omega)) z_98 z_104 z_110 z_116 z_122 z_128
              · have m_129 : 0 ≤ (g 91 1) ∧ (g 91 1) ≤ 6 := I.1 91 1
                have z_131 : ∀ k : Int, 0 ≤ k ∧ k < 10 → (¬ ((-1) : Int) = -1 ∧ k = g 2 8 → g 5 k = l3) ∧ (¬ (¬ ((-1) : Int) = -1 ∧ k = g 2 8) → g 5 k = g 5 k) := by
                  intro k hk
                  have m_130 : 0 ≤ (g 5 k) ∧ (g 5 k) ≤ 99 := I.1 5 k
                  omega
                have z_133 : ∀ k : Int, 0 ≤ k ∧ k < 10 → (¬ ((-1) : Int) = -1 ∧ k = g 2 8 → g 6 k = 0) ∧ (¬ (¬ ((-1) : Int) = -1 ∧ k = g 2 8) → g 6 k = g 6 k) := by
                  intro k hk
                  have m_132 : 0 ≤ (g 6 k) ∧ (g 6 k) ≤ 2 := I.1 6 k
                  omega
                have z_135 : ∀ k : Int, 0 ≤ k ∧ k < 10 → (¬ ((-1) : Int) = -1 ∧ k = g 2 8 → g 7 k = 0) ∧ (¬ (¬ ((-1) : Int) = -1 ∧ k = g 2 8) → g 7 k = g 7 k) := by
                  intro k hk
                  have m_134 : 0 ≤ (g 7 k) ∧ (g 7 k) ≤ 999 := I.1 7 k
                  omega
                have z_137 : ∀ k : Int, 0 ≤ k ∧ k < 10 → (¬ ((-1) : Int) = -1 ∧ k = g 2 8 → g 8 k = 0) ∧ (¬ (¬ ((-1) : Int) = -1 ∧ k = g 2 8) → g 8 k = g 8 k) := by
                  intro k hk
                  have m_136 : 0 ≤ (g 8 k) ∧ (g 8 k) ≤ 20 := I.1 8 k
                  omega
                have z_139 : ∀ k : Int, 0 ≤ k ∧ k < 10 → (¬ ((-1) : Int) = -1 ∧ k = g 2 8 → g 3 k = l1) ∧ (¬ (¬ ((-1) : Int) = -1 ∧ k = g 2 8) → g 3 k = g 3 k) := by
                  intro k hk
                  have m_138 : 0 ≤ (g 3 k) ∧ (g 3 k) ≤ 5 := I.1 3 k
                  omega
                have z_141 : ∀ k : Int, 0 ≤ k ∧ k < 10 → (¬ ((-1) : Int) = -1 ∧ k = g 2 8 → g 4 k = l2) ∧ (¬ (¬ ((-1) : Int) = -1 ∧ k = g 2 8) → g 4 k = g 4 k) := by
                  intro k hk
                  have m_140 : 0 ≤ (g 4 k) ∧ (g 4 k) ≤ 3 := I.1 4 k
                  omega
                exact hQ _ _ I (zk_f0 _) ⟨by omega, by omega⟩ (by omega) (by omega) (by omega) (by intro hv; first | rfl | assumption | (exfalso; omega)) z_131 z_133 z_135 z_137 z_139 z_141
            · have m_142 : 0 ≤ (g 2 8) ∧ (g 2 8) ≤ 10 := I.1 2 8
              have m_143 : 0 ≤ (g 91 1) ∧ (g 91 1) ≤ 6 := I.1 91 1
              have z_145 : ∀ k : Int, 0 ≤ k ∧ k < 10 → (¬ ((-1) : Int) = -1 ∧ k = g 2 8 → g 5 k = l3) ∧ (¬ (¬ ((-1) : Int) = -1 ∧ k = g 2 8) → g 5 k = g 5 k) := by
                intro k hk
                have m_144 : 0 ≤ (g 5 k) ∧ (g 5 k) ≤ 99 := I.1 5 k
                omega
              have z_147 : ∀ k : Int, 0 ≤ k ∧ k < 10 → (¬ ((-1) : Int) = -1 ∧ k = g 2 8 → g 6 k = 0) ∧ (¬ (¬ ((-1) : Int) = -1 ∧ k = g 2 8) → g 6 k = g 6 k) := by
                intro k hk
                have m_146 : 0 ≤ (g 6 k) ∧ (g 6 k) ≤ 2 := I.1 6 k
                omega
              have z_149 : ∀ k : Int, 0 ≤ k ∧ k < 10 → (¬ ((-1) : Int) = -1 ∧ k = g 2 8 → g 7 k = 0) ∧ (¬ (¬ ((-1) : Int) = -1 ∧ k = g 2 8) → g 7 k = g 7 k) := by
                intro k hk
                have m_148 : 0 ≤ (g 7 k) ∧ (g 7 k) ≤ 999 := I.1 7 k
                omega
              have z_151 : ∀ k : Int, 0 ≤ k ∧ k < 10 → (¬ ((-1) : Int) = -1 ∧ k = g 2 8 → g 8 k = 0) ∧ (¬ (¬ ((-1) : Int) = -1 ∧ k = g 2 8) → g 8 k = g 8 k) := by
                intro k hk
                have m_150 : 0 ≤ (g 8 k) ∧ (g 8 k) ≤ 20 := I.1 8 k
                omega
              have z_153 : ∀ k : Int, 0 ≤ k ∧ k < 10 → (¬ ((-1) : Int) = -1 ∧ k = g 2 8 → g 3 k = l1) ∧ (¬ (¬ ((-1) : Int) = -1 ∧ k = g 2 8) → g 3 k = g 3 k) := by
                intro k hk
                have m_152 : 0 ≤ (g 3 k) ∧ (g 3 k) ≤ 5 := I.1 3 k
                omega
              have z_155 : ∀ k : Int, 0 ≤ k ∧ k < 10 → (¬ ((-1) : Int) = -1 ∧ k = g 2 8 → g 4 k = l2) ∧ (¬ (¬ ((-1) : Int) = -1 ∧ k = g 2 8) → g 4 k = g 4 k) := by
                intro k hk
                have m_154 : 0 ≤ (g 4 k) ∧ (g 4 k) ≤ 3 := I.1 4 k
                omega
              exact hQ _ _ I (zk_f0 _) ⟨by omega, by omega⟩ (by omega) (by omega) (by omega) (by intro hv; first | rfl | assumption | (exfalso; omega)) z_145 z_147 z_149 z_151 z_153 z_155
