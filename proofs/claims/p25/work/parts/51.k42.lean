-- by program (wip/gen/mkz.py)
-- SpoutNews.drought(I)I
set_option maxRecDepth 100000 in
set_option maxHeartbeats 4000000 in
theorem k_S_drought {l1 : Int} {g : zi_M} {Q : Int → zi_M → Prop} (I : zk_I g) (p1 : (-2147483648) ≤ l1 ∧ l1 ≤ 2147483647) (hQ : ∀ (v : Int) (g' : zi_M), zk_I g' → zk_fr fr_S_drought g g' → ((-1) ≤ v ∧ v ≤ 40) → (l1 = -1 → v = 0 ∧ g' 36 10 = 0) → (¬ l1 = -1 → 0 ≤ l1 ∧ l1 ≤ 9 ∧ g 36 10 < 40 → v = g 36 10 + 1 ∧ g' 36 10 = g 36 10 + 1) → (¬ l1 = -1 → ¬ (0 ≤ l1 ∧ l1 ≤ 9 ∧ g 36 10 < 40) → v = -1 ∧ g' 36 10 = g 36 10) → (∀ k : Int, 0 ≤ k ∧ k < 40 → (¬ (¬ l1 = -1 ∧ 0 ≤ l1 ∧ l1 ≤ 9 ∧ g 36 10 < 40) → g' 44 k = g 44 k) ∧ (¬ l1 = -1 ∧ 0 ≤ l1 ∧ l1 ≤ 9 ∧ g 36 10 < 40 → (k = g 36 10 → g' 44 k = l1) ∧ (¬ k = g 36 10 → g' 44 k = g 44 k))) → Q v g') : w_S_drought l1 g Q := by
  unfold w_S_drought
  refine ⟨⟨by omega, by omega⟩, ?_⟩
  refine ⟨fun c10 => ?_, fun c10 => ?_⟩
  · refine ⟨fun c8 => ?_, fun c8 => ?_⟩
    · have m_1 : 0 ≤ (g 36 10) ∧ (g 36 10) ≤ 40 := I.1 36 10
      have z_3 : ∀ k : Int, 0 ≤ k ∧ k < 40 → (¬ (¬ l1 = -1 ∧ 0 ≤ l1 ∧ l1 ≤ 9 ∧ g 36 10 < 40) → g 44 k = g 44 k) ∧ (¬ l1 = -1 ∧ 0 ≤ l1 ∧ l1 ≤ 9 ∧ g 36 10 < 40 → (k = g 36 10 → g 44 k = l1) ∧ (¬ k = g 36 10 → g 44 k = g 44 k)) := by
        intro k hk
        have m_2 : 0 ≤ (g 44 k) ∧ (g 44 k) ≤ 9 := I.1 44 k
        omega
      exact hQ _ _ I (zk_f0 _) ⟨by omega, by omega⟩ (by omega) (by omega) (by omega) z_3
    · refine ⟨fun c7 => ?_, fun c7 => ?_⟩
      · have m_4 : 0 ≤ (g 36 10) ∧ (g 36 10) ≤ 40 := I.1 36 10
        have z_6 : ∀ k : Int, 0 ≤ k ∧ k < 40 → (¬ (¬ l1 = -1 ∧ 0 ≤ l1 ∧ l1 ≤ 9 ∧ g 36 10 < 40) → g 44 k = g 44 k) ∧ (¬ l1 = -1 ∧ 0 ≤ l1 ∧ l1 ≤ 9 ∧ g 36 10 < 40 → (k = g 36 10 → g 44 k = l1) ∧ (¬ k = g 36 10 → g 44 k = g 44 k)) := by
          intro k hk
          have m_5 : 0 ≤ (g 44 k) ∧ (g 44 k) ≤ 9 := I.1 44 k
          omega
        exact hQ _ _ I (zk_f0 _) ⟨by omega, by omega⟩ (by omega) (by omega) (by omega) z_6
      · have m_7 : 0 ≤ (g 36 10) ∧ (g 36 10) ≤ 40 := I.1 36 10
        refine ⟨⟨by omega, by omega⟩, ?_⟩
        refine ⟨fun c6 => ?_, fun c6 => ?_⟩
        · refine ⟨⟨by omega, by omega⟩, ?_⟩
          intro g4 e_8
          have I_9 : zk_I g4 := by rw [e_8]; exact zk_upd (L := 0) (H := 9) rfl rfl I ⟨by omega, by omega⟩
          have F_10 : zk_fr fr_S_drought g g4 := by rw [e_8]; exact zk_fu (zk_f0 _) (Or.inl rfl)
          have m_14 : 0 ≤ (g4 36 10) ∧ (g4 36 10) ≤ 40 := I_9.1 36 10
          have m_15 : g4 36 10 = g 36 10 := by rw [e_8]; exact zi_u_ne (by decide)
          intro g5 e_11
          have I_12 : zk_I g5 := by rw [e_11]; exact zk_upd (L := 0) (H := 40) rfl rfl I_9 ⟨by omega, by omega⟩
          have F_13 : zk_fr fr_S_drought g g5 := by rw [e_11]; exact zk_fu F_10 (Or.inr ⟨rfl, rfl⟩)
          have m_16 : 0 ≤ (g5 36 10) ∧ (g5 36 10) ≤ 40 := I_12.1 36 10
          have m_17 : g5 36 10 = (g4 36 10) + 1 := by rw [e_11]; exact zi_u_eq
          have z_23 : ∀ k : Int, 0 ≤ k ∧ k < 40 → (¬ (¬ l1 = -1 ∧ 0 ≤ l1 ∧ l1 ≤ 9 ∧ g 36 10 < 40) → g5 44 k = g 44 k) ∧ (¬ l1 = -1 ∧ 0 ≤ l1 ∧ l1 ≤ 9 ∧ g 36 10 < 40 → (k = g 36 10 → g5 44 k = l1) ∧ (¬ k = g 36 10 → g5 44 k = g 44 k)) := by
            intro k hk
            have m_18 : 0 ≤ (g5 44 k) ∧ (g5 44 k) ≤ 9 := I_12.1 44 k
            have m_19 : g5 44 k = g4 44 k := by rw [e_11]; exact zi_u_ne (by decide)
            have m_20 : 0 ≤ (g4 44 k) ∧ (g4 44 k) ≤ 9 := I_9.1 44 k
            have m_21 : 0 ≤ (g 44 k) ∧ (g 44 k) ≤ 9 := I.1 44 k
            have m_22 : (k = g 36 10 → g4 44 k = l1) ∧ (¬ k = g 36 10 → g4 44 k = g 44 k) := by rw [e_8]; exact zi_u_if
            omega
          exact hQ _ _ I_12 F_13 ⟨by omega, by omega⟩ (by omega) (by omega) (by omega) z_23
        · have z_25 : ∀ k : Int, 0 ≤ k ∧ k < 40 → (¬ (¬ l1 = -1 ∧ 0 ≤ l1 ∧ l1 ≤ 9 ∧ g 36 10 < 40) → g 44 k = g 44 k) ∧ (¬ l1 = -1 ∧ 0 ≤ l1 ∧ l1 ≤ 9 ∧ g 36 10 < 40 → (k = g 36 10 → g 44 k = l1) ∧ (¬ k = g 36 10 → g 44 k = g 44 k)) := by
            intro k hk
            have m_24 : 0 ≤ (g 44 k) ∧ (g 44 k) ≤ 9 := I.1 44 k
            omega
          exact hQ _ _ I (zk_f0 _) ⟨by omega, by omega⟩ (by omega) (by omega) (by omega) z_25
  · intro g9 e_26
    have I_27 : zk_I g9 := by rw [e_26]; exact zk_upd (L := 0) (H := 40) rfl rfl I ⟨by omega, by omega⟩
    have F_28 : zk_fr fr_S_drought g g9 := by rw [e_26]; exact zk_fu (zk_f0 _) (Or.inr ⟨rfl, rfl⟩)
    have m_29 : 0 ≤ (g9 36 10) ∧ (g9 36 10) ≤ 40 := I_27.1 36 10
    have m_30 : g9 36 10 = 0 := by rw [e_26]; exact zi_u_eq
    have z_34 : ∀ k : Int, 0 ≤ k ∧ k < 40 → (¬ (¬ l1 = -1 ∧ 0 ≤ l1 ∧ l1 ≤ 9 ∧ g 36 10 < 40) → g9 44 k = g 44 k) ∧ (¬ l1 = -1 ∧ 0 ≤ l1 ∧ l1 ≤ 9 ∧ g 36 10 < 40 → (k = g 36 10 → g9 44 k = l1) ∧ (¬ k = g 36 10 → g9 44 k = g 44 k)) := by
      intro k hk
      have m_31 : 0 ≤ (g9 44 k) ∧ (g9 44 k) ≤ 9 := I_27.1 44 k
      have m_32 : g9 44 k = g 44 k := by rw [e_26]; exact zi_u_ne (by decide)
      have m_33 : 0 ≤ (g 44 k) ∧ (g 44 k) ≤ 9 := I.1 44 k
      omega
    exact hQ _ _ I_27 F_28 ⟨by omega, by omega⟩ (by omega) (by omega) (by omega) z_34
-- SpoutNewsModel.drought(I)I
set_option maxRecDepth 100000 in
set_option maxHeartbeats 4000000 in
theorem k_M_drought {l1 : Int} {g : zi_M} {Q : Int → zi_M → Prop} (I : zk_I g) (p1 : (-2147483648) ≤ l1 ∧ l1 ≤ 2147483647) (hQ : ∀ (v : Int) (g' : zi_M), zk_I g' → zk_fr fr_M_drought g g' → ((-1) ≤ v ∧ v ≤ 40) → (l1 = -1 → v = 0 ∧ g' 214 56 = 0) → (¬ l1 = -1 → 0 ≤ l1 ∧ l1 ≤ 9 ∧ g 214 56 < 40 → v = g 214 56 + 1 ∧ g' 214 56 = g 214 56 + 1) → (¬ l1 = -1 → ¬ (0 ≤ l1 ∧ l1 ≤ 9 ∧ g 214 56 < 40) → v = -1 ∧ g' 214 56 = g 214 56) → (∀ k : Int, 0 ≤ k ∧ k < 40 → (¬ (¬ l1 = -1 ∧ 0 ≤ l1 ∧ l1 ≤ 9 ∧ g 214 56 < 40) → g' 247 k = g 247 k) ∧ (¬ l1 = -1 ∧ 0 ≤ l1 ∧ l1 ≤ 9 ∧ g 214 56 < 40 → (k = g 214 56 → g' 247 k = l1) ∧ (¬ k = g 214 56 → g' 247 k = g 247 k))) → Q v g') : w_M_drought l1 g Q := by
  unfold w_M_drought
  intro g1 e_1
  have I_2 : zk_I g1 := by rw [e_1]; exact zk_upd (L := (-2147483648)) (H := 2147483647) rfl rfl I ⟨by omega, by omega⟩
  have F_3 : zk_fr fr_M_drought g g1 := by rw [e_1]; exact zk_fu (zk_f0 _) (Or.inr (Or.inl ⟨rfl, rfl⟩))
  refine ⟨⟨by omega, by omega⟩, ?_⟩
  refine ⟨fun c13 => ?_, fun c13 => ?_⟩
  · refine k_M_isIn I_2 ⟨by omega, by omega⟩ ⟨by omega, by omega⟩ ⟨by omega, by omega⟩ (fun v3 b_4 b_5 b_6 => ?_)
    refine ⟨fun c11 => ?_, fun c11 => ?_⟩
    · have m_7 : 0 ≤ (g1 214 56) ∧ (g1 214 56) ≤ 40 := I_2.1 214 56
      have m_8 : g1 214 56 = g 214 56 := by rw [e_1]; exact zi_u_ni (by decide)
      have m_9 : 0 ≤ (g 214 56) ∧ (g 214 56) ≤ 40 := I.1 214 56
      have z_13 : ∀ k : Int, 0 ≤ k ∧ k < 40 → (¬ (¬ l1 = -1 ∧ 0 ≤ l1 ∧ l1 ≤ 9 ∧ g 214 56 < 40) → g1 247 k = g 247 k) ∧ (¬ l1 = -1 ∧ 0 ≤ l1 ∧ l1 ≤ 9 ∧ g 214 56 < 40 → (k = g 214 56 → g1 247 k = l1) ∧ (¬ k = g 214 56 → g1 247 k = g 247 k)) := by
        intro k hk
        have m_10 : 0 ≤ (g1 247 k) ∧ (g1 247 k) ≤ 9 := I_2.1 247 k
        have m_11 : g1 247 k = g 247 k := by rw [e_1]; exact zi_u_ne (by decide)
        have m_12 : 0 ≤ (g 247 k) ∧ (g 247 k) ≤ 9 := I.1 247 k
        omega
      exact hQ _ _ I_2 F_3 ⟨by omega, by omega⟩ (by omega) (by omega) (by omega) z_13
    · have m_14 : 0 ≤ (g1 214 56) ∧ (g1 214 56) ≤ 40 := I_2.1 214 56
      have m_15 : g1 214 56 = g 214 56 := by rw [e_1]; exact zi_u_ni (by decide)
      have m_16 : 0 ≤ (g 214 56) ∧ (g 214 56) ≤ 40 := I.1 214 56
      refine ⟨⟨by omega, by omega⟩, ?_⟩
      refine ⟨fun c10 => ?_, fun c10 => ?_⟩
      · refine ⟨⟨by omega, by omega⟩, ?_⟩
        intro g8 e_17
        have I_18 : zk_I g8 := by rw [e_17]; exact zk_upd (L := 0) (H := 9) rfl rfl I_2 ⟨by omega, by omega⟩
        have F_19 : zk_fr fr_M_drought g g8 := by rw [e_17]; exact zk_fu F_3 (Or.inl rfl)
        have m_23 : 0 ≤ (g8 214 56) ∧ (g8 214 56) ≤ 40 := I_18.1 214 56
        have m_24 : g8 214 56 = g1 214 56 := by rw [e_17]; exact zi_u_ne (by decide)
        intro g9 e_20
        have I_21 : zk_I g9 := by rw [e_20]; exact zk_upd (L := 0) (H := 40) rfl rfl I_18 ⟨by omega, by omega⟩
        have F_22 : zk_fr fr_M_drought g g9 := by rw [e_20]; exact zk_fu F_19 (Or.inr (Or.inr ⟨rfl, rfl⟩))
        have m_25 : 0 ≤ (g9 214 56) ∧ (g9 214 56) ≤ 40 := I_21.1 214 56
        have m_26 : g9 214 56 = (g8 214 56) + 1 := by rw [e_20]; exact zi_u_eq
        have z_34 : ∀ k : Int, 0 ≤ k ∧ k < 40 → (¬ (¬ l1 = -1 ∧ 0 ≤ l1 ∧ l1 ≤ 9 ∧ g 214 56 < 40) → g9 247 k = g 247 k) ∧ (¬ l1 = -1 ∧ 0 ≤ l1 ∧ l1 ≤ 9 ∧ g 214 56 < 40 → (k = g 214 56 → g9 247 k = l1) ∧ (¬ k = g 214 56 → g9 247 k = g 247 k)) := by
          intro k hk
          have m_27 : 0 ≤ (g9 247 k) ∧ (g9 247 k) ≤ 9 := I_21.1 247 k
          have m_28 : g9 247 k = g8 247 k := by rw [e_20]; exact zi_u_ne (by decide)
          have m_29 : 0 ≤ (g8 247 k) ∧ (g8 247 k) ≤ 9 := I_18.1 247 k
          have m_30 : 0 ≤ (g1 247 k) ∧ (g1 247 k) ≤ 9 := I_2.1 247 k
          have m_31 : g1 247 k = g 247 k := by rw [e_1]; exact zi_u_ne (by decide)
          have m_32 : 0 ≤ (g 247 k) ∧ (g 247 k) ≤ 9 := I.1 247 k
          have m_33 : (k = g1 214 56 → g8 247 k = l1) ∧ (¬ k = g1 214 56 → g8 247 k = g1 247 k) := by rw [e_17]; exact zi_u_if
          omega
        exact hQ _ _ I_21 F_22 ⟨by omega, by omega⟩ (by omega) (by omega) (by omega) z_34
      · have z_38 : ∀ k : Int, 0 ≤ k ∧ k < 40 → (¬ (¬ l1 = -1 ∧ 0 ≤ l1 ∧ l1 ≤ 9 ∧ g 214 56 < 40) → g1 247 k = g 247 k) ∧ (¬ l1 = -1 ∧ 0 ≤ l1 ∧ l1 ≤ 9 ∧ g 214 56 < 40 → (k = g 214 56 → g1 247 k = l1) ∧ (¬ k = g 214 56 → g1 247 k = g 247 k)) := by
          intro k hk
          have m_35 : 0 ≤ (g1 247 k) ∧ (g1 247 k) ≤ 9 := I_2.1 247 k
          have m_36 : g1 247 k = g 247 k := by rw [e_1]; exact zi_u_ne (by decide)
          have m_37 : 0 ≤ (g 247 k) ∧ (g 247 k) ≤ 9 := I.1 247 k
          omega
        exact hQ _ _ I_2 F_3 ⟨by omega, by omega⟩ (by omega) (by omega) (by omega) z_38
  · intro g12 e_39
    have I_40 : zk_I g12 := by rw [e_39]; exact zk_upd (L := 0) (H := 40) rfl rfl I_2 ⟨by omega, by omega⟩
    have F_41 : zk_fr fr_M_drought g g12 := by rw [e_39]; exact zk_fu F_3 (Or.inr (Or.inr ⟨rfl, rfl⟩))
    have m_42 : 0 ≤ (g12 214 56) ∧ (g12 214 56) ≤ 40 := I_40.1 214 56
    have m_43 : g12 214 56 = 0 := by rw [e_39]; exact zi_u_eq
    have z_49 : ∀ k : Int, 0 ≤ k ∧ k < 40 → (¬ (¬ l1 = -1 ∧ 0 ≤ l1 ∧ l1 ≤ 9 ∧ g 214 56 < 40) → g12 247 k = g 247 k) ∧ (¬ l1 = -1 ∧ 0 ≤ l1 ∧ l1 ≤ 9 ∧ g 214 56 < 40 → (k = g 214 56 → g12 247 k = l1) ∧ (¬ k = g 214 56 → g12 247 k = g 247 k)) := by
      intro k hk
      have m_44 : 0 ≤ (g12 247 k) ∧ (g12 247 k) ≤ 9 := I_40.1 247 k
      have m_45 : g12 247 k = g1 247 k := by rw [e_39]; exact zi_u_ne (by decide)
      have m_46 : 0 ≤ (g1 247 k) ∧ (g1 247 k) ≤ 9 := I_2.1 247 k
      have m_47 : g1 247 k = g 247 k := by rw [e_1]; exact zi_u_ne (by decide)
      have m_48 : 0 ≤ (g 247 k) ∧ (g 247 k) ≤ 9 := I.1 247 k
      omega
    exact hQ _ _ I_40 F_41 ⟨by omega, by omega⟩ (by omega) (by omega) (by omega) z_49
-- SpoutNews$Told.longestRunBegins()I
set_option maxRecDepth 100000 in
set_option maxHeartbeats 4000000 in
theorem k_Told_longestRunBegins_b35 {l1 : Int} {l2 : Int} {l4 : Int} {s0 : Int} {H : Int → Int → Int → Int → zi_M → Prop} {K56 : Int → zi_M → Prop} {Q : Int → zi_M → Prop} {g : zi_M} (I : zk_I g) (p1 : 0 ≤ l1 ∧ l1 ≤ 40) (p2 : (-1) ≤ l2 ∧ l2 ≤ 39) (p4 : 0 ≤ l4 ∧ l4 ≤ 39) (ix0 : 0 ≤ s0 ∧ s0 ≤ l4 + 1) (ix1 : l1 ≤ l4) (ix2 : l4 < g 36 10) (ix3 : l1 = zmost (g 44) l4.toNat) (ix4 : l2 = zbeg (g 44) l4.toNat) (ix5 : s0 = zrun (g 44) (l4 + 1).toNat) (ps0 : 0 ≤ s0 ∧ s0 ≤ 41) (M : Int) (hM : 40 - l4 ≤ M) (hH : ∀ (m1 : Int) (m2 : Int) (m3 : Int) (m4 : Int), (0 ≤ m1 ∧ m1 ≤ 40) → ((-1) ≤ m2 ∧ m2 ≤ 39) → (0 ≤ m3 ∧ m3 ≤ 40) → (0 ≤ m4 ∧ m4 ≤ 40) → (m3 ≤ m4) → (m1 ≤ m4) → (m4 ≤ g 36 10) → (m1 = zmost (g 44) m4.toNat) → (m2 = zbeg (g 44) m4.toNat) → (m3 = zrun (g 44) m4.toNat) → 40 - m4 < M → H m1 m2 m3 m4 g) (hK56 : ∀ (k2 : Int), ((-1) ≤ k2 ∧ k2 ≤ 39) → (k2 = zbeg (g 44) (g 36 10).toNat) → K56 k2 g) (hQ : ∀ v : Int, ((-1) ≤ v ∧ v ≤ 39) → (v = zbeg (g 44) (g 36 10).toNat) → Q v g) : w_Told_longestRunBegins_b35 l1 l2 l4 s0 g H K56 Q := by
  unfold w_Told_longestRunBegins_b35
  refine ⟨⟨by omega, by omega⟩, ⟨by omega, by omega⟩, ?_⟩
  refine ⟨fun c7 => ?_, fun c7 => ?_⟩
  · have m_3 : 0 ≤ (g 36 10) ∧ (g 36 10) ≤ 40 := I.1 36 10
    exact hH _ _ _ _ ⟨by omega, by omega⟩ ⟨by omega, by omega⟩ ⟨by omega, by omega⟩ ⟨by omega, by omega⟩ (by omega) (by omega) (by omega) (by first | rfl | assumption | exact zmost_s (by omega) (by assumption) (by assumption) (by omega) | exact zmost_u (by omega) (by assumption) (by assumption) (by omega)) (by first | rfl | assumption | exact zbeg_s (by omega) (by assumption) (by assumption) (by assumption) (by omega) | exact zbeg_u (by omega) (by assumption) (by assumption) (by omega)) (by first | rfl | assumption) (by omega)
  · have m_4 : 0 ≤ (g 36 10) ∧ (g 36 10) ≤ 40 := I.1 36 10
    exact hH _ _ _ _ ⟨by omega, by omega⟩ ⟨by omega, by omega⟩ ⟨by omega, by omega⟩ ⟨by omega, by omega⟩ (by omega) (by omega) (by omega) (by first | rfl | assumption | exact zmost_s (by omega) (by assumption) (by assumption) (by omega) | exact zmost_u (by omega) (by assumption) (by assumption) (by omega)) (by first | rfl | assumption | exact zbeg_s (by omega) (by assumption) (by assumption) (by assumption) (by omega) | exact zbeg_u (by omega) (by assumption) (by assumption) (by omega)) (by first | rfl | assumption) (by omega)
set_option maxRecDepth 100000 in
set_option maxHeartbeats 4000000 in
theorem k_Told_longestRunBegins_l9 {g : zi_M} (I : zk_I g) {K56 : Int → zi_M → Prop} {Q : Int → zi_M → Prop} (hK56 : ∀ (k2 : Int), ((-1) ≤ k2 ∧ k2 ≤ 39) → (k2 = zbeg (g 44) (g 36 10).toNat) → K56 k2 g) (hQ : ∀ v : Int, ((-1) ≤ v ∧ v ≤ 39) → (v = zbeg (g 44) (g 36 10).toNat) → Q v g) : ∀ (n : Nat) {l1 : Int} {l2 : Int} {l3 : Int} {l4 : Int}, (0 ≤ l1 ∧ l1 ≤ 40) → ((-1) ≤ l2 ∧ l2 ≤ 39) → (0 ≤ l3 ∧ l3 ≤ 40) → (0 ≤ l4 ∧ l4 ≤ 40) → (l3 ≤ l4) → (l1 ≤ l4) → (l4 ≤ g 36 10) → (l1 = zmost (g 44) l4.toNat) → (l2 = zbeg (g 44) l4.toNat) → (l3 = zrun (g 44) l4.toNat) → 40 - l4 < (n : Int) → w_Told_longestRunBegins_l9 K56 Q n l1 l2 l3 l4 g
  | 0, l1, l2, l3, l4, b0, b1, b2, b3, b4, b5, b6, b7, b8, b9, hm => by exfalso; omega
  | n + 1, l1, l2, l3, l4, b0, b1, b2, b3, b4, b5, b6, b7, b8, b9, hm => by
    unfold w_Told_longestRunBegins_l9
    have m_1 : 0 ≤ (g 36 10) ∧ (g 36 10) ≤ 40 := I.1 36 10
    refine ⟨⟨by omega, by omega⟩, ⟨by omega, by omega⟩, ?_⟩
    refine ⟨fun c9 => ?_, fun c9 => ?_⟩
    · exact hK56 _ ⟨by omega, by omega⟩ (by rw [show g 36 10 = l4 by omega]; assumption)
    · refine ⟨⟨by omega, by omega⟩, ?_⟩
      have m_2 : 0 ≤ (g 44 l4) ∧ (g 44 l4) ≤ 9 := I.1 44 l4
      refine ⟨⟨by omega, by omega⟩, ?_⟩
      refine ⟨fun c8 => ?_, fun c8 => ?_⟩
      · exact k_Told_longestRunBegins_b35 I ⟨by omega, by omega⟩ ⟨by omega, by omega⟩ ⟨by omega, by omega⟩ (by omega) (by omega) (by omega) (by assumption) (by assumption) (by first | exact zrun_z (by omega) (by assumption) (by omega) | exact zrun_n (by omega) (by omega)) ⟨by omega, by omega⟩ (n : Int) (by omega) (fun _ _ _ _ b0 b1 b2 b3 b4 b5 b6 b7 b8 b9 hm => k_Told_longestRunBegins_l9 I hK56 hQ n b0 b1 b2 b3 b4 b5 b6 b7 b8 b9 hm) hK56 hQ
      · exact k_Told_longestRunBegins_b35 I ⟨by omega, by omega⟩ ⟨by omega, by omega⟩ ⟨by omega, by omega⟩ (by omega) (by omega) (by omega) (by assumption) (by assumption) (by first | exact zrun_z (by omega) (by assumption) (by omega) | exact zrun_n (by omega) (by omega)) ⟨by omega, by omega⟩ (n : Int) (by omega) (fun _ _ _ _ b0 b1 b2 b3 b4 b5 b6 b7 b8 b9 hm => k_Told_longestRunBegins_l9 I hK56 hQ n b0 b1 b2 b3 b4 b5 b6 b7 b8 b9 hm) hK56 hQ
set_option maxRecDepth 100000 in
set_option maxHeartbeats 4000000 in
theorem k_Told_longestRunBegins {g : zi_M} {Q : Int → zi_M → Prop} (I : zk_I g) (hQ : ∀ v : Int, ((-1) ≤ v ∧ v ≤ 39) → (v = zbeg (g 44) (g 36 10).toNat) → Q v g) : w_Told_longestRunBegins g Q := by
  unfold w_Told_longestRunBegins
  have m_7 : 0 ≤ (g 36 10) ∧ (g 36 10) ≤ 40 := I.1 36 10
  refine ⟨((40 - 0 : Int).toNat + 1), k_Told_longestRunBegins_l9 I (fun k10 b_5 b_6 => ?_) hQ ((40 - 0 : Int).toNat + 1) ⟨by omega, by omega⟩ ⟨by omega, by omega⟩ ⟨by omega, by omega⟩ ⟨by omega, by omega⟩ (by omega) (by omega) (by omega) (by first | rfl | assumption | exact zmost_s (by omega) (by assumption) (by assumption) (by omega) | exact zmost_u (by omega) (by assumption) (by assumption) (by omega)) (by first | rfl | assumption | exact zbeg_s (by omega) (by assumption) (by assumption) (by assumption) (by omega) | exact zbeg_u (by omega) (by assumption) (by assumption) (by omega)) (by first | rfl | assumption) (by omega)⟩
  exact hQ _ ⟨by omega, by omega⟩ (by assumption)
-- SpoutNews$Told.longestRun()I
set_option maxRecDepth 100000 in
set_option maxHeartbeats 4000000 in
theorem k_Told_longestRun_l9 {g : zi_M} (I : zk_I g) {K39 : Int → zi_M → Prop} {Q : Int → zi_M → Prop} (hK39 : ∀ (k2 : Int), (0 ≤ k2 ∧ k2 ≤ 41) → (k2 = zmost (g 44) (g 36 10).toNat) → K39 k2 g) (hQ : ∀ v : Int, (0 ≤ v ∧ v ≤ 41) → (v = zmost (g 44) (g 36 10).toNat) → Q v g) : ∀ (n : Nat) {l2 : Int} {l3 : Int}, (0 ≤ l2 ∧ l2 ≤ 41) → ((-1) ≤ l3 ∧ l3 ≤ 40) → (l2 ≤ l3 + 1) → (zbeg (g 44) (g 36 10).toNat = -1 → l3 = -1 ∧ l2 = 0) → (0 ≤ zbeg (g 44) (g 36 10).toNat → l3 = zbeg (g 44) (g 36 10).toNat + l2) → (0 ≤ zbeg (g 44) (g 36 10).toNat → l2 ≤ zmost (g 44) (g 36 10).toNat) → 41 - l2 < (n : Int) → w_Told_longestRun_l9 K39 Q n l2 l3 g
  | 0, l2, l3, b0, b1, b2, b3, b4, b5, hm => by exfalso; omega
  | n + 1, l2, l3, b0, b1, b2, b3, b4, b5, hm => by
    unfold w_Told_longestRun_l9
    refine ⟨⟨by omega, by omega⟩, ?_⟩
    refine ⟨fun c10 => ?_, fun c10 => ?_⟩
    · have m_4 : 0 ≤ (g 36 10) ∧ (g 36 10) ≤ 40 := I.1 36 10
      exact hK39 _ ⟨by omega, by omega⟩ (by exact zlr_end rfl (by assumption) (by assumption) (by assumption) (by omega) (by omega))
    · have m_5 : 0 ≤ (g 36 10) ∧ (g 36 10) ≤ 40 := I.1 36 10
      refine ⟨⟨by omega, by omega⟩, ?_⟩
      refine ⟨fun c9 => ?_, fun c9 => ?_⟩
      · exact hK39 _ ⟨by omega, by omega⟩ (by exact zlr_end rfl (by assumption) (by assumption) (by assumption) (by omega) (by omega))
      · refine ⟨⟨by omega, by omega⟩, ?_⟩
        have m_6 : 0 ≤ (g 44 l3) ∧ (g 44 l3) ≤ 9 := I.1 44 l3
        refine ⟨⟨by omega, by omega⟩, ?_⟩
        refine ⟨fun c8 => ?_, fun c8 => ?_⟩
        · exact hK39 _ ⟨by omega, by omega⟩ (by exact zlr_end rfl (by assumption) (by assumption) (by assumption) (by omega) (by omega))
        · exact k_Told_longestRun_l9 I hK39 hQ n ⟨by omega, by omega⟩ ⟨by omega, by omega⟩ (by omega) (by omega) (by omega) (by intro hv; first | exact zmost_0 | exact zlr_step (i := l3) rfl hv (by omega) (by omega) (by omega) (by omega)) (by omega)
set_option maxRecDepth 100000 in
set_option maxHeartbeats 4000000 in
theorem k_Told_longestRun {g : zi_M} {Q : Int → zi_M → Prop} (I : zk_I g) (hQ : ∀ v : Int, (0 ≤ v ∧ v ≤ 41) → (v = zmost (g 44) (g 36 10).toNat) → Q v g) : w_Told_longestRun g Q := by
  unfold w_Told_longestRun
  have m_1 : 0 ≤ (g 36 10) ∧ (g 36 10) ≤ 40 := I.1 36 10
  refine k_Told_longestRunBegins I (fun v1 b_2 b_3 => ?_)
  refine ⟨((41 - 0 : Int).toNat + 1), k_Told_longestRun_l9 I (fun k11 b_7 b_8 => ?_) hQ ((41 - 0 : Int).toNat + 1) ⟨by omega, by omega⟩ ⟨by omega, by omega⟩ (by omega) (by omega) (by omega) (by intro hv; first | exact zmost_0 | exact zlr_step (i := l3) rfl hv (by omega) (by omega) (by omega) (by omega)) (by omega)⟩
  exact hQ _ ⟨by omega, by omega⟩ (by assumption)
-- SpoutNews.longest(I)I
set_option maxRecDepth 100000 in
set_option maxHeartbeats 4000000 in
theorem k_S_longest {l1 : Int} {g : zi_M} {Q : Int → zi_M → Prop} (I : zk_I g) (p1 : (-2147483648) ≤ l1 ∧ l1 ≤ 2147483647) (hQ : ∀ v : Int, ((-1) ≤ v ∧ v ≤ 41) → (l1 = 0 → v = zmost (g 44) (g 36 10).toNat) → (l1 = 1 → v = zbeg (g 44) (g 36 10).toNat) → (¬ l1 = 0 → ¬ l1 = 1 → v = -1) → Q v g) : w_S_longest l1 g Q := by
  unfold w_S_longest
  refine ⟨⟨by omega, by omega⟩, ?_⟩
  refine ⟨fun c2_0 c2_1 => ?_, fun c2 => ?_, fun c2 => ?_⟩
  · exact hQ _ ⟨by omega, by omega⟩ (by intro hv; first | assumption | (exfalso; omega)) (by intro hv; first | assumption | (exfalso; omega)) (by omega)
  · have m_1 : 0 ≤ (g 36 10) ∧ (g 36 10) ≤ 40 := I.1 36 10
    refine k_Told_longestRun I (fun v3 b_2 b_3 => ?_)
    exact hQ _ ⟨by omega, by omega⟩ (by intro hv; first | assumption | (exfalso; omega)) (by intro hv; first | assumption | (exfalso; omega)) (by omega)
  · have m_4 : 0 ≤ (g 36 10) ∧ (g 36 10) ≤ 40 := I.1 36 10
    refine k_Told_longestRunBegins I (fun v6 b_5 b_6 => ?_)
    exact hQ _ ⟨by omega, by omega⟩ (by intro hv; first | assumption | (exfalso; omega)) (by intro hv; first | assumption | (exfalso; omega)) (by omega)
-- SpoutNewsModel.longest(I)I
set_option maxRecDepth 100000 in
set_option maxHeartbeats 4000000 in
theorem k_M_longest_b53 {l1 : Int} {l3 : Int} {l4 : Int} {l5 : Int} {s0 : Int} {H : Int → Int → Int → Int → zi_M → Prop} {K78 : Int → Int → zi_M → Prop} {Q : Int → zi_M → Prop} {g : zi_M} {g0 : zi_M} (I : zk_I g) (F : zk_fr fr_M_longest g0 g) (p3 : 0 ≤ l3 ∧ l3 ≤ 40) (p4 : (-1) ≤ l4 ∧ l4 ≤ 39) (p5 : 0 ≤ l5 ∧ l5 ≤ 39) (ix0 : 0 ≤ s0 ∧ s0 ≤ l5 + 1) (ix1 : l3 ≤ l5) (ix2 : l5 < g0 214 56) (ix3 : l3 = zmost (g0 247) l5.toNat) (ix4 : l4 = zbeg (g0 247) l5.toNat) (ix5 : s0 = zrun (g0 247) (l5 + 1).toNat) (ps0 : 0 ≤ s0 ∧ s0 ≤ 41) (M : Int) (hM : 40 - l5 ≤ M) (hH : ∀ (m2 : Int) (m3 : Int) (m4 : Int) (m5 : Int) (g : zi_M), zk_I g → zk_fr fr_M_longest g0 g → (0 ≤ m2 ∧ m2 ≤ 40) → (0 ≤ m3 ∧ m3 ≤ 40) → ((-1) ≤ m4 ∧ m4 ≤ 39) → (0 ≤ m5 ∧ m5 ≤ 40) → (m2 ≤ m5) → (m3 ≤ m5) → (m5 ≤ g0 214 56) → (m3 = zmost (g0 247) m5.toNat) → (m4 = zbeg (g0 247) m5.toNat) → (m2 = zrun (g0 247) m5.toNat) → 40 - m5 < M → H m2 m3 m4 m5 g) (hK78 : ∀ (k3 : Int) (k4 : Int) (g : zi_M), zk_I g → zk_fr fr_M_longest g0 g → (0 ≤ k3 ∧ k3 ≤ 40) → ((-1) ≤ k4 ∧ k4 ≤ 39) → (k3 = zmost (g0 247) (g0 214 56).toNat) → (k4 = zbeg (g0 247) (g0 214 56).toNat) → K78 k3 k4 g) (hQ : ∀ (v : Int) (g' : zi_M), zk_I g' → zk_fr fr_M_longest g0 g' → ((-1) ≤ v ∧ v ≤ 40) → (l1 = 0 → v = zmost (g0 247) (g0 214 56).toNat) → (l1 = 1 → v = zbeg (g0 247) (g0 214 56).toNat) → (¬ l1 = 0 → ¬ l1 = 1 → v = -1) → Q v g') : w_M_longest_b53 l3 l4 l5 s0 g H K78 Q := by
  unfold w_M_longest_b53
  refine ⟨⟨by omega, by omega⟩, ⟨by omega, by omega⟩, ?_⟩
  refine ⟨fun c11 => ?_, fun c11 => ?_⟩
  · exact hH _ _ _ _ _ I F ⟨by omega, by omega⟩ ⟨by omega, by omega⟩ ⟨by omega, by omega⟩ ⟨by omega, by omega⟩ (by omega) (by omega) (by first | omega | (have hi : 0 ≤ g 214 56 ∧ g 214 56 ≤ 40 := I.1 214 56; omega)) (by first | rfl | assumption | exact zmost_s (by omega) (by assumption) (by assumption) (by omega) | exact zmost_u (by omega) (by assumption) (by assumption) (by omega)) (by first | rfl | assumption | exact zbeg_s (by omega) (by assumption) (by assumption) (by assumption) (by omega) | exact zbeg_u (by omega) (by assumption) (by assumption) (by omega)) (by first | rfl | assumption) (by omega)
  · exact hH _ _ _ _ _ I F ⟨by omega, by omega⟩ ⟨by omega, by omega⟩ ⟨by omega, by omega⟩ ⟨by omega, by omega⟩ (by omega) (by omega) (by first | omega | (have hi : 0 ≤ g 214 56 ∧ g 214 56 ≤ 40 := I.1 214 56; omega)) (by first | rfl | assumption | exact zmost_s (by omega) (by assumption) (by assumption) (by omega) | exact zmost_u (by omega) (by assumption) (by assumption) (by omega)) (by first | rfl | assumption | exact zbeg_s (by omega) (by assumption) (by assumption) (by assumption) (by omega) | exact zbeg_u (by omega) (by assumption) (by assumption) (by omega)) (by first | rfl | assumption) (by omega)
set_option maxRecDepth 100000 in
set_option maxHeartbeats 4000000 in
theorem k_M_longest_l27 {l1 : Int} {K78 : Int → Int → zi_M → Prop} {Q : Int → zi_M → Prop} {g0 : zi_M} (hK78 : ∀ (k3 : Int) (k4 : Int) (g : zi_M), zk_I g → zk_fr fr_M_longest g0 g → (0 ≤ k3 ∧ k3 ≤ 40) → ((-1) ≤ k4 ∧ k4 ≤ 39) → (k3 = zmost (g0 247) (g0 214 56).toNat) → (k4 = zbeg (g0 247) (g0 214 56).toNat) → K78 k3 k4 g) (hQ : ∀ (v : Int) (g' : zi_M), zk_I g' → zk_fr fr_M_longest g0 g' → ((-1) ≤ v ∧ v ≤ 40) → (l1 = 0 → v = zmost (g0 247) (g0 214 56).toNat) → (l1 = 1 → v = zbeg (g0 247) (g0 214 56).toNat) → (¬ l1 = 0 → ¬ l1 = 1 → v = -1) → Q v g') : ∀ (n : Nat) {l2 : Int} {l3 : Int} {l4 : Int} {l5 : Int} {g : zi_M}, zk_I g → zk_fr fr_M_longest g0 g → (0 ≤ l2 ∧ l2 ≤ 40) → (0 ≤ l3 ∧ l3 ≤ 40) → ((-1) ≤ l4 ∧ l4 ≤ 39) → (0 ≤ l5 ∧ l5 ≤ 40) → (l2 ≤ l5) → (l3 ≤ l5) → (l5 ≤ g0 214 56) → (l3 = zmost (g0 247) l5.toNat) → (l4 = zbeg (g0 247) l5.toNat) → (l2 = zrun (g0 247) l5.toNat) → 40 - l5 < (n : Int) → w_M_longest_l27 K78 Q n l2 l3 l4 l5 g
  | 0, l2, l3, l4, l5, g, I, F, b0, b1, b2, b3, b4, b5, b6, b7, b8, b9, hm => by exfalso; omega
  | n + 1, l2, l3, l4, l5, g, I, F, b0, b1, b2, b3, b4, b5, b6, b7, b8, b9, hm => by
    unfold w_M_longest_l27
    have m_7 : 0 ≤ (g 214 56) ∧ (g 214 56) ≤ 40 := I.1 214 56
    refine ⟨⟨by omega, by omega⟩, ⟨by omega, by omega⟩, ?_⟩
    refine ⟨fun c13 => ?_, fun c13 => ?_⟩
    · exact hK78 _ _ _ I F ⟨by omega, by omega⟩ ⟨by omega, by omega⟩ (by have hf := F 214 56 (by unfold fr_M_longest; omega); rw [show g0 214 56 = l5 by omega]; assumption) (by have hf := F 214 56 (by unfold fr_M_longest; omega); rw [show g0 214 56 = l5 by omega]; assumption)
    · refine ⟨⟨by omega, by omega⟩, ?_⟩
      have m_8 : 0 ≤ (g 247 l5) ∧ (g 247 l5) ≤ 9 := I.1 247 l5
      refine ⟨⟨by omega, by omega⟩, ?_⟩
      refine ⟨fun c12 => ?_, fun c12 => ?_⟩
      · exact k_M_longest_b53 I F ⟨by omega, by omega⟩ ⟨by omega, by omega⟩ ⟨by omega, by omega⟩ (by omega) (by omega) (by have hf := F 214 56 (by unfold fr_M_longest; omega); omega) (by assumption) (by assumption) (by first | exact zrun_z (by omega) (by assumption) (by have hf := F 247 l5 (by unfold fr_M_longest; omega); omega) | exact zrun_n (by omega) (by have hf := F 247 l5 (by unfold fr_M_longest; omega); omega)) ⟨by omega, by omega⟩ (n : Int) (by omega) (fun _ _ _ _ _ I F b0 b1 b2 b3 b4 b5 b6 b7 b8 b9 hm => k_M_longest_l27 hK78 hQ n I F b0 b1 b2 b3 b4 b5 b6 b7 b8 b9 hm) hK78 hQ
      · exact k_M_longest_b53 I F ⟨by omega, by omega⟩ ⟨by omega, by omega⟩ ⟨by omega, by omega⟩ (by omega) (by omega) (by have hf := F 214 56 (by unfold fr_M_longest; omega); omega) (by assumption) (by assumption) (by first | exact zrun_z (by omega) (by assumption) (by have hf := F 247 l5 (by unfold fr_M_longest; omega); omega) | exact zrun_n (by omega) (by have hf := F 247 l5 (by unfold fr_M_longest; omega); omega)) ⟨by omega, by omega⟩ (n : Int) (by omega) (fun _ _ _ _ _ I F b0 b1 b2 b3 b4 b5 b6 b7 b8 b9 hm => k_M_longest_l27 hK78 hQ n I F b0 b1 b2 b3 b4 b5 b6 b7 b8 b9 hm) hK78 hQ
set_option maxRecDepth 100000 in
set_option maxHeartbeats 4000000 in
theorem k_M_longest {l1 : Int} {g : zi_M} {Q : Int → zi_M → Prop} (I : zk_I g) (p1 : (-2147483648) ≤ l1 ∧ l1 ≤ 2147483647) (hQ : ∀ (v : Int) (g' : zi_M), zk_I g' → zk_fr fr_M_longest g g' → ((-1) ≤ v ∧ v ≤ 40) → (l1 = 0 → v = zmost (g 247) (g 214 56).toNat) → (l1 = 1 → v = zbeg (g 247) (g 214 56).toNat) → (¬ l1 = 0 → ¬ l1 = 1 → v = -1) → Q v g') : w_M_longest l1 g Q := by
  unfold w_M_longest
  intro g1 e_1
  have I_2 : zk_I g1 := by rw [e_1]; exact zk_upd (L := (-2147483648)) (H := 2147483647) rfl rfl I ⟨by omega, by omega⟩
  have F_3 : zk_fr fr_M_longest g g1 := by rw [e_1]; exact zk_fu (zk_f0 _) ⟨rfl, rfl⟩
  refine k_M_isIn I_2 ⟨by omega, by omega⟩ ⟨by omega, by omega⟩ ⟨by omega, by omega⟩ (fun v2 b_4 b_5 b_6 => ?_)
  refine ⟨fun c20 => ?_, fun c20 => ?_⟩
  · refine ⟨((40 - 0 : Int).toNat + 1), k_M_longest_l27 (fun k14 k15 g16 I_9 F_10 b_11 b_12 b_13 b_14 => ?_) hQ ((40 - 0 : Int).toNat + 1) I_2 F_3 ⟨by omega, by omega⟩ ⟨by omega, by omega⟩ ⟨by omega, by omega⟩ ⟨by omega, by omega⟩ (by omega) (by omega) (by first | omega | (have hi : 0 ≤ g 214 56 ∧ g 214 56 ≤ 40 := I.1 214 56; omega)) (by first | rfl | assumption | exact zmost_s (by omega) (by assumption) (by assumption) (by omega) | exact zmost_u (by omega) (by assumption) (by assumption) (by omega)) (by first | rfl | assumption | exact zbeg_s (by omega) (by assumption) (by assumption) (by assumption) (by omega) | exact zbeg_u (by omega) (by assumption) (by assumption) (by omega)) (by first | rfl | assumption) (by omega)⟩
    refine ⟨⟨by omega, by omega⟩, ?_⟩
    refine ⟨fun c18 => ?_, fun c18 => ?_⟩
    · exact hQ _ _ I_9 F_10 ⟨by omega, by omega⟩ (by intro hv; first | assumption | (exfalso; omega)) (by intro hv; first | assumption | (exfalso; omega)) (by omega)
    · exact hQ _ _ I_9 F_10 ⟨by omega, by omega⟩ (by intro hv; first | assumption | (exfalso; omega)) (by intro hv; first | assumption | (exfalso; omega)) (by omega)
  · exact hQ _ _ I_2 F_3 ⟨by omega, by omega⟩ (by intro hv; first | assumption | (exfalso; omega)) (by intro hv; first | assumption | (exfalso; omega)) (by omega)
