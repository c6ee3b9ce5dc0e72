-- by program (wip/gen/mkz.py)
-- SpoutNewsModel.leans(I)I
set_option maxRecDepth 100000 in
set_option maxHeartbeats 4000000 in
theorem k_M_leans_l22 {l1 : Int} {K53 : Int → zi_M → Prop} {Q : Int → zi_M → Prop} {g0 : zi_M} (q1 : 1 ≤ l1 ∧ l1 ≤ 99) (hK53 : ∀ (k2 : Int) (g : zi_M), zk_I g → zk_fr fr_M_leans g0 g → (0 ≤ k2 ∧ k2 ≤ 120) → (k2 = zmx (g0 220) l1 (g0 214 6).toNat) → K53 k2 g) (hQ : ∀ (v : Int) (g' : zi_M), zk_I g' → zk_fr fr_M_leans g0 g' → ((-1) ≤ v ∧ v ≤ 120) → (1 ≤ l1 ∧ l1 ≤ 99 → v = zmx (g0 220) l1 (g0 214 6).toNat) → (¬ (1 ≤ l1 ∧ l1 ≤ 99) → v = -1) → Q v g') : ∀ (n : Nat) {l2 : Int} {l3 : Int} {g : zi_M}, zk_I g → zk_fr fr_M_leans g0 g → (0 ≤ l2 ∧ l2 ≤ 120) → (0 ≤ l3 ∧ l3 ≤ 10) → (l3 ≤ g 214 6) → (l2 = zmx (g0 220) l1 l3.toNat) → 10 - l3 < (n : Int) → w_M_leans_l22 l1 K53 Q n l2 l3 g
  | 0, l2, l3, g, I, F, b0, b1, b2, b3, hm => by exfalso; omega
  | n + 1, l2, l3, g, I, F, b0, b1, b2, b3, hm => by
    unfold w_M_leans_l22
    have m_7 : 0 ≤ (g 214 6) ∧ (g 214 6) ≤ 10 := I.1 214 6
    refine ⟨⟨by omega, by omega⟩, ⟨by omega, by omega⟩, ?_⟩
    refine ⟨fun c14 => ?_, fun c14 => ?_⟩
    · exact hK53 _ _ I F ⟨by omega, by omega⟩ (by have hf := F 214 6 (by unfold fr_M_leans; omega); rw [show g0 214 6 = l3 by omega]; assumption)
    · refine ⟨⟨by omega, by omega⟩, ?_⟩
      have m_8 : 0 ≤ (g 220 l3) ∧ (g 220 l3) ≤ 99 := I.1 220 l3
      refine k_M_leansFrom I ⟨by omega, by omega⟩ ⟨by omega, by omega⟩ (fun v8 b_9 b_10 => ?_)
      refine k_M_greater I ⟨by omega, by omega⟩ ⟨by omega, by omega⟩ (fun v11 b_11 b_12 => ?_)
      exact k_M_leans_l22 q1 hK53 hQ n I F ⟨by omega, by omega⟩ ⟨by omega, by omega⟩ (by omega) (by first | rfl | exact zmx_w (by assumption) (by rw [← F 220 l3 (by unfold fr_M_leans; omega)]) (by omega) (by omega) (by omega)) (by omega)
set_option maxRecDepth 100000 in
set_option maxHeartbeats 4000000 in
theorem k_M_leans {l1 : Int} {g : zi_M} {Q : Int → zi_M → Prop} (I : zk_I g) (p1 : (-2147483648) ≤ l1 ∧ l1 ≤ 2147483647) (hQ : ∀ (v : Int) (g' : zi_M), zk_I g' → zk_fr fr_M_leans g g' → ((-1) ≤ v ∧ v ≤ 120) → (1 ≤ l1 ∧ l1 ≤ 99 → v = zmx (g 220) l1 (g 214 6).toNat) → (¬ (1 ≤ l1 ∧ l1 ≤ 99) → v = -1) → Q v g') : w_M_leans l1 g Q := by
  unfold w_M_leans
  intro g1 e_1
  have I_2 : zk_I g1 := by rw [e_1]; exact zk_upd (L := (-2147483648)) (H := 2147483647) rfl rfl I ⟨by omega, by omega⟩
  have F_3 : zk_fr fr_M_leans g g1 := by rw [e_1]; exact zk_fu (zk_f0 _) ⟨rfl, rfl⟩
  refine k_M_isIn I_2 ⟨by omega, by omega⟩ ⟨by omega, by omega⟩ ⟨by omega, by omega⟩ (fun v2 b_4 b_5 b_6 => ?_)
  refine ⟨fun c18 => ?_, fun c18 => ?_⟩
  · have m_17 : 0 ≤ (g1 214 6) ∧ (g1 214 6) ≤ 10 := I_2.1 214 6
    have m_18 : g1 214 6 = g 214 6 := by rw [e_1]; exact zi_u_ni (by decide)
    have m_19 : 0 ≤ (g 214 6) ∧ (g 214 6) ≤ 10 := I.1 214 6
    refine ⟨((10 - 0 : Int).toNat + 1), k_M_leans_l22 (l1 := l1) ⟨by omega, by omega⟩ (fun k15 g16 I_13 F_14 b_15 b_16 => ?_) hQ ((10 - 0 : Int).toNat + 1) I_2 F_3 ⟨by omega, by omega⟩ ⟨by omega, by omega⟩ (by omega) (by first | rfl | exact zmx_w (by assumption) (by rw [← F 220 l3 (by unfold fr_M_leans; omega)]) (by omega) (by omega) (by omega)) (by omega)⟩
    exact hQ _ _ I_13 F_14 ⟨by omega, by omega⟩ (by intro hv; first | assumption | (exfalso; omega)) (by omega)
  · exact hQ _ _ I_2 F_3 ⟨by omega, by omega⟩ (by intro hv; first | assumption | (exfalso; omega)) (by omega)
-- SpoutNews.chapter(I)I
set_option maxRecDepth 100000 in
set_option maxHeartbeats 4000000 in
theorem k_S_chapter {l1 : Int} {g : zi_M} {Q : Int → zi_M → Prop} (I : zk_I g) (p1 : (-2147483648) ≤ l1 ∧ l1 ≤ 2147483647) (hQ : ∀ (v : Int) (g' : zi_M), zk_I g' → zk_fr fr_S_chapter g g' → ((-1) ≤ v ∧ v ≤ 12) → (l1 = -1 → v = 0 ∧ g' 36 12 = 0) → (¬ l1 = -1 → 1 ≤ l1 ∧ l1 ≤ 60 ∧ g 36 12 < 12 → v = g 36 12 + 1 ∧ g' 36 12 = g 36 12 + 1) → (¬ l1 = -1 → ¬ (1 ≤ l1 ∧ l1 ≤ 60 ∧ g 36 12 < 12) → v = -1 ∧ g' 36 12 = g 36 12) → (∀ k : Int, 0 ≤ k ∧ k < 12 → (¬ v = -1 ∧ ¬ l1 = -1 ∧ k = g 36 12 → g' 45 k = l1) ∧ (¬ (¬ v = -1 ∧ ¬ l1 = -1 ∧ k = g 36 12) → g' 45 k = g 45 k)) → Q v g') : w_S_chapter l1 g Q := by
  unfold w_S_chapter
  refine ⟨⟨by omega, by omega⟩, ?_⟩
  refine ⟨fun c10 => ?_, fun c10 => ?_⟩
  · refine ⟨fun c8 => ?_, fun c8 => ?_⟩
    · have m_1 : 0 ≤ (g 36 12) ∧ (g 36 12) ≤ 12 := I.1 36 12
      have z_3 : ∀ k : Int, 0 ≤ k ∧ k < 12 → (¬ ((-1) : Int) = -1 ∧ ¬ l1 = -1 ∧ k = g 36 12 → g 45 k = l1) ∧ (¬ (¬ ((-1) : Int) = -1 ∧ ¬ l1 = -1 ∧ k = g 36 12) → g 45 k = g 45 k) := by
        intro k hk
        have m_2 : 0 ≤ (g 45 k) ∧ (g 45 k) ≤ 60 := I.1 45 k
        omega
      exact hQ _ _ I (zk_f0 _) ⟨by omega, by omega⟩ (by omega) (by omega) (by omega) z_3
    · refine ⟨fun c7 => ?_, fun c7 => ?_⟩
      · have m_4 : 0 ≤ (g 36 12) ∧ (g 36 12) ≤ 12 := I.1 36 12
        have z_6 : ∀ k : Int, 0 ≤ k ∧ k < 12 → (¬ ((-1) : Int) = -1 ∧ ¬ l1 = -1 ∧ k = g 36 12 → g 45 k = l1) ∧ (¬ (¬ ((-1) : Int) = -1 ∧ ¬ l1 = -1 ∧ k = g 36 12) → g 45 k = g 45 k) := by
          intro k hk
          have m_5 : 0 ≤ (g 45 k) ∧ (g 45 k) ≤ 60 := I.1 45 k
          omega
        exact hQ _ _ I (zk_f0 _) ⟨by omega, by omega⟩ (by omega) (by omega) (by omega) z_6
      · have m_7 : 0 ≤ (g 36 12) ∧ (g 36 12) ≤ 12 := I.1 36 12
        refine ⟨⟨by omega, by omega⟩, ?_⟩
        refine ⟨fun c6 => ?_, fun c6 => ?_⟩
        · refine ⟨⟨by omega, by omega⟩, ?_⟩
          intro g4 e_8
          have I_9 : zk_I g4 := by rw [e_8]; exact zk_upd (L := 0) (H := 60) rfl rfl I ⟨by omega, by omega⟩
          have F_10 : zk_fr fr_S_chapter g g4 := by rw [e_8]; exact zk_fu (zk_f0 _) (Or.inl rfl)
          have m_14 : 0 ≤ (g4 36 12) ∧ (g4 36 12) ≤ 12 := I_9.1 36 12
          have m_15 : g4 36 12 = g 36 12 := by rw [e_8]; exact zi_u_ne (by decide)
          intro g5 e_11
          have I_12 : zk_I g5 := by rw [e_11]; exact zk_upd (L := 0) (H := 12) rfl rfl I_9 ⟨by omega, by omega⟩
          have F_13 : zk_fr fr_S_chapter g g5 := by rw [e_11]; exact zk_fu F_10 (Or.inr ⟨rfl, rfl⟩)
          have m_16 : 0 ≤ (g5 36 12) ∧ (g5 36 12) ≤ 12 := I_12.1 36 12
          have m_17 : g5 36 12 = (g4 36 12) + 1 := by rw [e_11]; exact zi_u_eq
          have z_23 : ∀ k : Int, 0 ≤ k ∧ k < 12 → (¬ (g5 36 12 : Int) = -1 ∧ ¬ l1 = -1 ∧ k = g 36 12 → g5 45 k = l1) ∧ (¬ (¬ (g5 36 12 : Int) = -1 ∧ ¬ l1 = -1 ∧ k = g 36 12) → g5 45 k = g 45 k) := by
            intro k hk
            have m_18 : 0 ≤ (g5 45 k) ∧ (g5 45 k) ≤ 60 := I_12.1 45 k
            have m_19 : g5 45 k = g4 45 k := by rw [e_11]; exact zi_u_ne (by decide)
            have m_20 : 0 ≤ (g4 45 k) ∧ (g4 45 k) ≤ 60 := I_9.1 45 k
            have m_21 : 0 ≤ (g 45 k) ∧ (g 45 k) ≤ 60 := I.1 45 k
            have m_22 : (k = g 36 12 → g4 45 k = l1) ∧ (¬ k = g 36 12 → g4 45 k = g 45 k) := by rw [e_8]; exact zi_u_if
            omega
          exact hQ _ _ I_12 F_13 ⟨by omega, by omega⟩ (by omega) (by omega) (by omega) z_23
        · have z_25 : ∀ k : Int, 0 ≤ k ∧ k < 12 → (¬ ((-1) : Int) = -1 ∧ ¬ l1 = -1 ∧ k = g 36 12 → g 45 k = l1) ∧ (¬ (¬ ((-1) : Int) = -1 ∧ ¬ l1 = -1 ∧ k = g 36 12) → g 45 k = g 45 k) := by
            intro k hk
            have m_24 : 0 ≤ (g 45 k) ∧ (g 45 k) ≤ 60 := I.1 45 k
            omega
          exact hQ _ _ I (zk_f0 _) ⟨by omega, by omega⟩ (by omega) (by omega) (by omega) z_25
  · intro g9 e_26
    have I_27 : zk_I g9 := by rw [e_26]; exact zk_upd (L := 0) (H := 12) rfl rfl I ⟨by omega, by omega⟩
    have F_28 : zk_fr fr_S_chapter g g9 := by rw [e_26]; exact zk_fu (zk_f0 _) (Or.inr ⟨rfl, rfl⟩)
    have m_29 : 0 ≤ (g9 36 12) ∧ (g9 36 12) ≤ 12 := I_27.1 36 12
    have m_30 : g9 36 12 = 0 := by rw [e_26]; exact zi_u_eq
    have z_34 : ∀ k : Int, 0 ≤ k ∧ k < 12 → (¬ (0 : Int) = -1 ∧ ¬ l1 = -1 ∧ k = g 36 12 → g9 45 k = l1) ∧ (¬ (¬ (0 : Int) = -1 ∧ ¬ l1 = -1 ∧ k = g 36 12) → g9 45 k = g 45 k) := by
      intro k hk
      have m_31 : 0 ≤ (g9 45 k) ∧ (g9 45 k) ≤ 60 := I_27.1 45 k
      have m_32 : g9 45 k = g 45 k := by rw [e_26]; exact zi_u_ne (by decide)
      have m_33 : 0 ≤ (g 45 k) ∧ (g 45 k) ≤ 60 := I.1 45 k
      omega
    exact hQ _ _ I_27 F_28 ⟨by omega, by omega⟩ (by omega) (by omega) (by omega) z_34
-- SpoutNewsModel.chapter(I)I
set_option maxRecDepth 100000 in
set_option maxHeartbeats 4000000 in
theorem k_M_chapter {l1 : Int} {g : zi_M} {Q : Int → zi_M → Prop} (I : zk_I g) (p1 : (-2147483648) ≤ l1 ∧ l1 ≤ 2147483647) (hQ : ∀ (v : Int) (g' : zi_M), zk_I g' → zk_fr fr_M_chapter g g' → ((-1) ≤ v ∧ v ≤ 12) → (l1 = -1 → v = 0 ∧ g' 214 58 = 0) → (¬ l1 = -1 → 1 ≤ l1 ∧ l1 ≤ 60 ∧ g 214 58 < 12 → v = g 214 58 + 1 ∧ g' 214 58 = g 214 58 + 1) → (¬ l1 = -1 → ¬ (1 ≤ l1 ∧ l1 ≤ 60 ∧ g 214 58 < 12) → v = -1 ∧ g' 214 58 = g 214 58) → (∀ k : Int, 0 ≤ k ∧ k < 12 → (¬ v = -1 ∧ ¬ l1 = -1 ∧ k = g 214 58 → g' 248 k = l1) ∧ (¬ (¬ v = -1 ∧ ¬ l1 = -1 ∧ k = g 214 58) → g' 248 k = g 248 k)) → Q v g') : w_M_chapter l1 g Q := by
  unfold w_M_chapter
  intro g1 e_1
  have I_2 : zk_I g1 := by rw [e_1]; exact zk_upd (L := (-2147483648)) (H := 2147483647) rfl rfl I ⟨by omega, by omega⟩
  have F_3 : zk_fr fr_M_chapter g g1 := by rw [e_1]; exact zk_fu (zk_f0 _) (Or.inr (Or.inl ⟨rfl, rfl⟩))
  refine ⟨⟨by omega, by omega⟩, ?_⟩
  refine ⟨fun c13 => ?_, fun c13 => ?_⟩
  · refine k_M_isIn I_2 ⟨by omega, by omega⟩ ⟨by omega, by omega⟩ ⟨by omega, by omega⟩ (fun v3 b_4 b_5 b_6 => ?_)
    refine ⟨fun c11 => ?_, fun c11 => ?_⟩
    · have m_7 : 0 ≤ (g1 214 58) ∧ (g1 214 58) ≤ 12 := I_2.1 214 58
      have m_8 : g1 214 58 = g 214 58 := by rw [e_1]; exact zi_u_ni (by decide)
      have m_9 : 0 ≤ (g 214 58) ∧ (g 214 58) ≤ 12 := I.1 214 58
      have z_13 : ∀ k : Int, 0 ≤ k ∧ k < 12 → (¬ ((-1) : Int) = -1 ∧ ¬ l1 = -1 ∧ k = g 214 58 → g1 248 k = l1) ∧ (¬ (¬ ((-1) : Int) = -1 ∧ ¬ l1 = -1 ∧ k = g 214 58) → g1 248 k = g 248 k) := by
        intro k hk
        have m_10 : 0 ≤ (g1 248 k) ∧ (g1 248 k) ≤ 60 := I_2.1 248 k
        have m_11 : g1 248 k = g 248 k := by rw [e_1]; exact zi_u_ne (by decide)
        have m_12 : 0 ≤ (g 248 k) ∧ (g 248 k) ≤ 60 := I.1 248 k
        omega
      exact hQ _ _ I_2 F_3 ⟨by omega, by omega⟩ (by omega) (by omega) (by omega) z_13
    · have m_14 : 0 ≤ (g1 214 58) ∧ (g1 214 58) ≤ 12 := I_2.1 214 58
      have m_15 : g1 214 58 = g 214 58 := by rw [e_1]; exact zi_u_ni (by decide)
      have m_16 : 0 ≤ (g 214 58) ∧ (g 214 58) ≤ 12 := I.1 214 58
      refine ⟨⟨by omega, by omega⟩, ?_⟩
      refine ⟨fun c10 => ?_, fun c10 => ?_⟩
      · refine ⟨⟨by omega, by omega⟩, ?_⟩
        intro g8 e_17
        have I_18 : zk_I g8 := by rw [e_17]; exact zk_upd (L := 0) (H := 60) rfl rfl I_2 ⟨by omega, by omega⟩
        have F_19 : zk_fr fr_M_chapter g g8 := by rw [e_17]; exact zk_fu F_3 (Or.inl rfl)
        have m_23 : 0 ≤ (g8 214 58) ∧ (g8 214 58) ≤ 12 := I_18.1 214 58
        have m_24 : g8 214 58 = g1 214 58 := by rw [e_17]; exact zi_u_ne (by decide)
        intro g9 e_20
        have I_21 : zk_I g9 := by rw [e_20]; exact zk_upd (L := 0) (H := 12) rfl rfl I_18 ⟨by omega, by omega⟩
        have F_22 : zk_fr fr_M_chapter g g9 := by rw [e_20]; exact zk_fu F_19 (Or.inr (Or.inr ⟨rfl, rfl⟩))
        have m_25 : 0 ≤ (g9 214 58) ∧ (g9 214 58) ≤ 12 := I_21.1 214 58
        have m_26 : g9 214 58 = (g8 214 58) + 1 := by rw [e_20]; exact zi_u_eq
        have z_34 : ∀ k : Int, 0 ≤ k ∧ k < 12 → (¬ (g9 214 58 : Int) = -1 ∧ ¬ l1 = -1 ∧ k = g 214 58 → g9 248 k = l1) ∧ (¬ (¬ (g9 214 58 : Int) = -1 ∧ ¬ l1 = -1 ∧ k = g 214 58) → g9 248 k = g 248 k) := by
          intro k hk
          have m_27 : 0 ≤ (g9 248 k) ∧ (g9 248 k) ≤ 60 := I_21.1 248 k
          have m_28 : g9 248 k = g8 248 k := by rw [e_20]; exact zi_u_ne (by decide)
          have m_29 : 0 ≤ (g8 248 k) ∧ (g8 248 k) ≤ 60 := I_18.1 248 k
          have m_30 : 0 ≤ (g1 248 k) ∧ (g1 248 k) ≤ 60 := I_2.1 248 k
          have m_31 : g1 248 k = g 248 k := by rw [e_1]; exact zi_u_ne (by decide)
          have m_32 : 0 ≤ (g 248 k) ∧ (g 248 k) ≤ 60 := I.1 248 k
          have m_33 : (k = g1 214 58 → g8 248 k = l1) ∧ (¬ k = g1 214 58 → g8 248 k = g1 248 k) := by rw [e_17]; exact zi_u_if
          omega
        exact hQ _ _ I_21 F_22 ⟨by omega, by omega⟩ (by omega) (by omega) (by omega) z_34
      · have z_38 : ∀ k : Int, 0 ≤ k ∧ k < 12 → (¬ ((-1) : Int) = -1 ∧ ¬ l1 = -1 ∧ k = g 214 58 → g1 248 k = l1) ∧ (¬ (¬ ((-1) : Int) = -1 ∧ ¬ l1 = -1 ∧ k = g 214 58) → g1 248 k = g 248 k) := by
          intro k hk
          have m_35 : 0 ≤ (g1 248 k) ∧ (g1 248 k) ≤ 60 := I_2.1 248 k
          have m_36 : g1 248 k = g 248 k := by rw [e_1]; exact zi_u_ne (by decide)
          have m_37 : 0 ≤ (g 248 k) ∧ (g 248 k) ≤ 60 := I.1 248 k
          omega
        exact hQ _ _ I_2 F_3 ⟨by omega, by omega⟩ (by omega) (by omega) (by omega) z_38
  · intro g12 e_39
    have I_40 : zk_I g12 := by rw [e_39]; exact zk_upd (L := 0) (H := 12) rfl rfl I_2 ⟨by omega, by omega⟩
    have F_41 : zk_fr fr_M_chapter g g12 := by rw [e_39]; exact zk_fu F_3 (Or.inr (Or.inr ⟨rfl, rfl⟩))
    have m_42 : 0 ≤ (g12 214 58) ∧ (g12 214 58) ≤ 12 := I_40.1 214 58
    have m_43 : g12 214 58 = 0 := by rw [e_39]; exact zi_u_eq
    have z_49 : ∀ k : Int, 0 ≤ k ∧ k < 12 → (¬ (0 : Int) = -1 ∧ ¬ l1 = -1 ∧ k = g 214 58 → g12 248 k = l1) ∧ (¬ (¬ (0 : Int) = -1 ∧ ¬ l1 = -1 ∧ k = g 214 58) → g12 248 k = g 248 k) := by
      intro k hk
      have m_44 : 0 ≤ (g12 248 k) ∧ (g12 248 k) ≤ 60 := I_40.1 248 k
      have m_45 : g12 248 k = g1 248 k := by rw [e_39]; exact zi_u_ne (by decide)
      have m_46 : 0 ≤ (g1 248 k) ∧ (g1 248 k) ≤ 60 := I_2.1 248 k
      have m_47 : g1 248 k = g 248 k := by rw [e_1]; exact zi_u_ne (by decide)
      have m_48 : 0 ≤ (g 248 k) ∧ (g 248 k) ≤ 60 := I.1 248 k
      omega
    exact hQ _ _ I_40 F_41 ⟨by omega, by omega⟩ (by omega) (by omega) (by omega) z_49
-- SpoutNews$Thought.storm(II)I
set_option maxRecDepth 100000 in
set_option maxHeartbeats 4000000 in
theorem k_Thought_storm {l0 : Int} {l1 : Int} {g : zi_M} {Q : Int → zi_M → Prop} (I : zk_I g) (p0 : 1 ≤ l0 ∧ l0 ≤ 6) (p1 : 0 ≤ l1) (hQ : ∀ v : Int, (v = (l0 * 13) + l1) → Q v g) : w_Thought_storm l0 l1 g Q := by
  unfold w_Thought_storm
  exact hQ _ (by intros; omega)
-- SpoutNews$Told.minutes(II)I
set_option maxRecDepth 100000 in
set_option maxHeartbeats 4000000 in
theorem k_Told_minutes_l5 {l1 : Int} {g : zi_M} (I : zk_I g) {l2 : Int} {x1 : Int} {K36 : Int → zi_M → Prop} {Q : Int → zi_M → Prop} (q2 : 0 ≤ l2 ∧ l2 ≤ 12) (hK36 : ∀ (k3 : Int), (0 ≤ k3 ∧ k3 ≤ 720) → (l2 ≤ g 36 12 → k3 = zSm (g 45) x1 l2) → K36 k3 g) (hQ : ∀ v : Int, (0 ≤ v ∧ v ≤ 720) → (l2 ≤ g 36 12 → v = zSm (g 45) l1 l2) → Q v g) : ∀ (n : Nat) {l3 : Int} {l4 : Int}, (0 ≤ l3 ∧ l3 ≤ 720) → (0 ≤ l4 ∧ l4 ≤ 12) → (l3 ≤ 60 * l4) → (x1 ≤ l4) → (l4 ≤ l2 ∨ l4 = x1) → (l3 = zSm (g 45) x1 l4) → 12 - l4 < (n : Int) → w_Told_minutes_l5 l2 K36 Q n l3 l4 g
  | 0, l3, l4, b0, b1, b2, b3, b4, b5, hm => by exfalso; omega
  | n + 1, l3, l4, b0, b1, b2, b3, b4, b5, hm => by
    unfold w_Told_minutes_l5
    refine ⟨⟨by omega, by omega⟩, ⟨by omega, by omega⟩, ?_⟩
    refine ⟨fun c6 => ?_, fun c6 => ?_⟩
    · have m_1 : 0 ≤ (g 36 12) ∧ (g 36 12) ≤ 12 := I.1 36 12
      exact hK36 _ ⟨by omega, by omega⟩ (by intro hv; first | exact zSm_x (by assumption) (by omega) (by omega) (by omega) | (exfalso; omega))
    · have m_2 : 0 ≤ (g 36 12) ∧ (g 36 12) ≤ 12 := I.1 36 12
      refine ⟨⟨by omega, by omega⟩, ?_⟩
      refine ⟨fun c5 => ?_, fun c5 => ?_⟩
      · exact hK36 _ ⟨by omega, by omega⟩ (by intro hv; first | exact zSm_x (by assumption) (by omega) (by omega) (by omega) | (exfalso; omega))
      · refine ⟨⟨by omega, by omega⟩, ?_⟩
        have m_3 : 0 ≤ (g 45 l4) ∧ (g 45 l4) ≤ 60 := I.1 45 l4
        exact k_Told_minutes_l5 I q2 hK36 hQ n ⟨by omega, by omega⟩ ⟨by omega, by omega⟩ (by omega) (by omega) (by omega) (by first | exact (zSm_0 (Int.le_refl _)).symm | exact zSm_st (by assumption) (by omega)) (by omega)
set_option maxRecDepth 100000 in
set_option maxHeartbeats 4000000 in
theorem k_Told_minutes {l1 : Int} {l2 : Int} {g : zi_M} {Q : Int → zi_M → Prop} (I : zk_I g) (p1 : 0 ≤ l1 ∧ l1 ≤ 12) (p2 : 0 ≤ l2 ∧ l2 ≤ 12) (hQ : ∀ v : Int, (0 ≤ v ∧ v ≤ 720) → (l2 ≤ g 36 12 → v = zSm (g 45) l1 l2) → Q v g) : w_Told_minutes l1 l2 g Q := by
  unfold w_Told_minutes
  refine ⟨((12 - l1 : Int).toNat + 1), k_Told_minutes_l5 (l2 := l2) (x1 := l1) I ⟨by omega, by omega⟩ (fun k7 b_4 b_5 => ?_) hQ ((12 - l1 : Int).toNat + 1) ⟨by omega, by omega⟩ ⟨by omega, by omega⟩ (by omega) (by omega) (by omega) (by first | exact (zSm_0 (Int.le_refl _)).symm | exact zSm_st (by assumption) (by omega)) (by omega)⟩
  exact hQ _ ⟨by omega, by omega⟩ (by assumption)
-- SpoutNews$Thought.greatestSum(LSpoutNews$Told;III)I
set_option maxRecDepth 100000 in
set_option maxHeartbeats 4000000 in
theorem k_Thought_greatestSum {l2 : Int} {l3 : Int} {l4 : Int} {g : zi_M} {Q : Int → zi_M → Prop} (I : zk_I g) (p2 : 2 ≤ l2 ∧ l2 ≤ 6) (p3 : 0 ≤ l3 ∧ l3 ≤ 12) (p4 : 1 ≤ l4 ∧ l4 ≤ 11) (hQ : ∀ v : Int, (0 ≤ v ∧ v ≤ 720) → (l4 ≤ g 36 12 → v = max (zSm (g 45) l3 l4) (g 189 ((l2 - 1) * 13 + l4))) → Q v g) : w_Thought_greatestSum l2 l3 l4 g Q := by
  unfold w_Thought_greatestSum
  have m_1 : 0 ≤ (g 36 12) ∧ (g 36 12) ≤ 12 := I.1 36 12
  refine k_Told_minutes I ⟨by omega, by omega⟩ ⟨by omega, by omega⟩ (fun v1 b_2 b_3 => ?_)
  refine k_Thought_storm I ⟨by omega, by omega⟩ (by omega) (fun v4 b_4 => ?_)
  refine ⟨⟨by omega, by omega⟩, ?_⟩
  have m_5 : 0 ≤ (g 189 v4) ∧ (g 189 v4) ≤ 720 := I.1 189 v4
  refine ⟨⟨by omega, by omega⟩, ⟨by omega, by omega⟩, ?_⟩
  exact hQ _ ⟨by omega, by omega⟩ (by exact zgs_l (by assumption) (by omega))
-- SpoutNews$Thought.readInStorms(LSpoutNews$Told;I)V
set_option maxRecDepth 100000 in
set_option maxHeartbeats 4000000 in
theorem k_Thought_readInStorms_l2 {l2 : Int} {K35 : zi_M → Prop} {Q : Int → zi_M → Prop} {g0 : zi_M} (hK35 : ∀ (g : zi_M), zk_I g → zk_fr fr_Thought_readInStorms g0 g → (zTb g 2 0) → K35 g) (hQ : ∀ g' : zi_M, zk_I g' → zk_fr fr_Thought_readInStorms g0 g' → (zTb g' (l2 + 1) 0) → Q 0 g') : ∀ (n : Nat) {l3 : Int} {g : zi_M}, zk_I g → zk_fr fr_Thought_readInStorms g0 g → (0 ≤ l3 ∧ l3 ≤ 13) → (zT1 g l3) → 13 - l3 < (n : Int) → w_Thought_readInStorms_l2 K35 Q n l3 g
  | 0, l3, g, I, F, b0, b1, hm => by exfalso; omega
  | n + 1, l3, g, I, F, b0, b1, hm => by
    unfold w_Thought_readInStorms_l2
    have m_1 : 0 ≤ (g 36 12) ∧ (g 36 12) ≤ 12 := I.1 36 12
    refine ⟨⟨by omega, by omega⟩, ⟨by omega, by omega⟩, ?_⟩
    refine ⟨fun c11 => ?_, fun c11 => ?_⟩
    · have m_2 : 0 ≤ (g 2 0) ∧ (g 2 0) ≤ 1 := I.1 2 0
      exact hK35 _ I F (by first | assumption | exact zT1_x (by assumption) (by assumption) (by omega))
    · refine k_Thought_storm I ⟨by omega, by omega⟩ (by omega) (fun v3 b_3 => ?_)
      refine k_Told_minutes I ⟨by omega, by omega⟩ ⟨by omega, by omega⟩ (fun v6 b_4 b_5 => ?_)
      refine ⟨⟨by omega, by omega⟩, ?_⟩
      intro g10 e_6
      have I_7 : zk_I g10 := by rw [e_6]; exact zk_upd (L := 0) (H := 720) rfl rfl I ⟨by omega, by omega⟩
      have F_8 : zk_fr fr_Thought_readInStorms g0 g10 := by rw [e_6]; exact zk_fu F rfl
      exact k_Thought_readInStorms_l2 hK35 hQ n I_7 F_8 ⟨by omega, by omega⟩ (by first | exact zT1_0 | exact zT1_st (by assumption) (by assumption) (by omega) (by assumption) (by omega)) (by omega)
set_option maxRecDepth 100000 in
set_option maxHeartbeats 4000000 in
theorem k_Thought_readInStorms_l73 {l2 : Int} {l3 : Int} {l4 : Int} {K109 : Int → zi_M → Prop} {Q : Int → zi_M → Prop} {g0 : zi_M} (q3 : 2 ≤ l3 ∧ l3 ≤ 6) (q4 : 0 ≤ l4 ∧ l4 ≤ 10) (hK109 : ∀ (k5 : Int) (g : zi_M), zk_I g → zk_fr fr_Thought_readInStorms g0 g → (0 ≤ k5 ∧ k5 ≤ 720) → (zTb g l3 l4) → (k5 = zDP (g 45) (g 36 12) l3.toNat l4) → K109 k5 g) (hQ : ∀ g' : zi_M, zk_I g' → zk_fr fr_Thought_readInStorms g0 g' → (zTb g' (l2 + 1) 0) → Q 0 g') : ∀ (n : Nat) {l5 : Int} {l6 : Int} {g : zi_M}, zk_I g → zk_fr fr_Thought_readInStorms g0 g → (0 ≤ l5 ∧ l5 ≤ 720) → (1 ≤ l6 ∧ l6 ≤ 12) → (l4 + 1 ≤ l6) → (l6 ≤ g 36 12 - l3 + 2) → (l4 ≤ g 36 12 - l3) → (zTb g l3 l4) → (l5 = zLb (g 45) (zDP (g 45) (g 36 12) (l3 - 1).toNat) l4 (zSm (g 45) 0 (g 36 12)) (l6 - l4 - 1).toNat) → 12 - l6 < (n : Int) → w_Thought_readInStorms_l73 l3 l4 K109 Q n l5 l6 g
  | 0, l5, l6, g, I, F, b0, b1, b2, b3, b4, b5, b6, hm => by exfalso; omega
  | n + 1, l5, l6, g, I, F, b0, b1, b2, b3, b4, b5, b6, hm => by
    unfold w_Thought_readInStorms_l73
    have m_15 : 0 ≤ (g 36 12) ∧ (g 36 12) ≤ 12 := I.1 36 12
    refine ⟨⟨by omega, by omega⟩, ⟨by omega, by omega⟩, ?_⟩
    refine ⟨fun c27 => ?_, fun c27 => ?_⟩
    · exact hK109 _ _ I F ⟨by omega, by omega⟩ (by assumption) (by exact zLb_x (by assumption) (by assumption) (by omega) (by omega) (by omega) (by omega))
    · refine k_Thought_greatestSum I ⟨by omega, by omega⟩ ⟨by omega, by omega⟩ ⟨by omega, by omega⟩ (fun v22 b_16 b_17 => ?_)
      refine ⟨⟨by omega, by omega⟩, ⟨by omega, by omega⟩, ?_⟩
      exact k_Thought_readInStorms_l73 q3 q4 hK109 hQ n I F ⟨by omega, by omega⟩ ⟨by omega, by omega⟩ (by omega) (by omega) (by omega) (by assumption) (by first | exact zLb_i (by assumption) | exact zLb_st (by assumption) (by assumption) (by assumption) (by omega) (by omega) (by omega) (by omega)) (by omega)
set_option maxRecDepth 100000 in
set_option maxHeartbeats 4000000 in
theorem k_Thought_readInStorms_l45 {l2 : Int} {l3 : Int} {K128 : zi_M → Prop} {Q : Int → zi_M → Prop} {g0 : zi_M} (q3 : 2 ≤ l3 ∧ l3 ≤ 6) (hK128 : ∀ (g : zi_M), zk_I g → zk_fr fr_Thought_readInStorms g0 g → (zTb g (l3 + 1) 0) → K128 g) (hQ : ∀ g' : zi_M, zk_I g' → zk_fr fr_Thought_readInStorms g0 g' → (zTb g' (l2 + 1) 0) → Q 0 g') : ∀ (n : Nat) {l4 : Int} {g : zi_M}, zk_I g → zk_fr fr_Thought_readInStorms g0 g → (0 ≤ l4 ∧ l4 ≤ 11) → (zTb g l3 l4) → 11 - l4 < (n : Int) → w_Thought_readInStorms_l45 l3 K128 Q n l4 g
  | 0, l4, g, I, F, b0, b1, hm => by exfalso; omega
  | n + 1, l4, g, I, F, b0, b1, hm => by
    unfold w_Thought_readInStorms_l45
    have m_12 : 0 ≤ (g 36 12) ∧ (g 36 12) ≤ 12 := I.1 36 12
    refine ⟨⟨by omega, by omega⟩, ⟨by omega, by omega⟩, ?_⟩
    refine ⟨fun c36 => ?_, fun c36 => ?_⟩
    · exact hK128 _ I F (by exact zTb_x (by assumption) (by omega))
    · refine k_Told_minutes I ⟨by omega, by omega⟩ ⟨by omega, by omega⟩ (fun v17 b_13 b_14 => ?_)
      refine ⟨((12 - (l4 + 1) : Int).toNat + 1), k_Thought_readInStorms_l73 (l3 := l3) (l4 := l4) ⟨by omega, by omega⟩ ⟨by omega, by omega⟩ (fun k28 g29 I_18 F_19 b_20 b_21 b_22 => ?_) hQ ((12 - (l4 + 1) : Int).toNat + 1) I F ⟨by omega, by omega⟩ ⟨by omega, by omega⟩ (by omega) (by omega) (by omega) (by assumption) (by first | exact zLb_i (by assumption) | exact zLb_st (by assumption) (by assumption) (by assumption) (by omega) (by omega) (by omega) (by omega)) (by omega)⟩
      refine k_Thought_storm I_18 ⟨by omega, by omega⟩ (by omega) (fun v30 b_23 => ?_)
      refine ⟨⟨by omega, by omega⟩, ?_⟩
      intro g34 e_24
      have I_25 : zk_I g34 := by rw [e_24]; exact zk_upd (L := 0) (H := 720) rfl rfl I_18 ⟨by omega, by omega⟩
      have F_26 : zk_fr fr_Thought_readInStorms g0 g34 := by rw [e_24]; exact zk_fu F_19 rfl
      exact k_Thought_readInStorms_l45 q3 hK128 hQ n I_25 F_26 ⟨by omega, by omega⟩ (by first | assumption | exact zTb_st (by assumption) (by assumption) (by assumption) (by omega) (by assumption) (by omega) (by omega)) (by omega)
set_option maxRecDepth 100000 in
set_option maxHeartbeats 4000000 in
theorem k_Thought_readInStorms_l37 {l2 : Int} {K134 : zi_M → Prop} {Q : Int → zi_M → Prop} {g0 : zi_M} (q2 : 1 ≤ l2 ∧ l2 ≤ 6) (hK134 : ∀ (g : zi_M), zk_I g → zk_fr fr_Thought_readInStorms g0 g → (zTb g (l2 + 1) 0) → K134 g) (hQ : ∀ g' : zi_M, zk_I g' → zk_fr fr_Thought_readInStorms g0 g' → (zTb g' (l2 + 1) 0) → Q 0 g') : ∀ (n : Nat) {l3 : Int} {g : zi_M}, zk_I g → zk_fr fr_Thought_readInStorms g0 g → (2 ≤ l3 ∧ l3 ≤ 7) → (l3 ≤ l2 + 1) → (zTb g l3 0) → 7 - l3 < (n : Int) → w_Thought_readInStorms_l37 l2 K134 Q n l3 g
  | 0, l3, g, I, F, b0, b1, b2, hm => by exfalso; omega
  | n + 1, l3, g, I, F, b0, b1, b2, hm => by
    unfold w_Thought_readInStorms_l37
    refine ⟨⟨by omega, by omega⟩, ⟨by omega, by omega⟩, ?_⟩
    refine ⟨fun c39 => ?_, fun c39 => ?_⟩
    · exact hK134 _ I F (by exact zTb_e (by assumption) (by omega))
    · refine ⟨((11 - 0 : Int).toNat + 1), k_Thought_readInStorms_l45 (l3 := l3) ⟨by omega, by omega⟩ (fun g37 I_27 F_28 b_29 => ?_) hQ ((11 - 0 : Int).toNat + 1) I F ⟨by omega, by omega⟩ (by first | assumption | exact zTb_st (by assumption) (by assumption) (by assumption) (by omega) (by assumption) (by omega) (by omega)) (by omega)⟩
      exact k_Thought_readInStorms_l37 q2 hK134 hQ n I_27 F_28 ⟨by omega, by omega⟩ (by omega) (by first | assumption | exact zT1_x (by assumption) (by assumption) (by omega)) (by omega)
set_option maxRecDepth 100000 in
set_option maxHeartbeats 4000000 in
theorem k_Thought_readInStorms {l2 : Int} {g : zi_M} {Q : Int → zi_M → Prop} (I : zk_I g) (p2 : 1 ≤ l2 ∧ l2 ≤ 6) (hQ : ∀ g' : zi_M, zk_I g' → zk_fr fr_Thought_readInStorms g g' → (zTb g' (l2 + 1) 0) → Q 0 g') : w_Thought_readInStorms l2 g Q := by
  unfold w_Thought_readInStorms
  refine ⟨((13 - 0 : Int).toNat + 1), k_Thought_readInStorms_l2 (fun g12 I_9 F_10 b_11 => ?_) hQ ((13 - 0 : Int).toNat + 1) I (zk_f0 _) ⟨by omega, by omega⟩ (by first | exact zT1_0 | exact zT1_st (by assumption) (by assumption) (by omega) (by assumption) (by omega)) (by omega)⟩
  refine ⟨((7 - 2 : Int).toNat + 1), k_Thought_readInStorms_l37 (l2 := l2) ⟨by omega, by omega⟩ (fun g40 I_30 F_31 b_32 => ?_) hQ ((7 - 2 : Int).toNat + 1) I_9 F_10 ⟨by omega, by omega⟩ (by omega) (by first | assumption | exact zT1_x (by assumption) (by assumption) (by omega)) (by omega)⟩
  exact hQ _ I_30 F_31 (by assumption)
-- SpoutNews$Thought.leastSum(I)I
set_option maxRecDepth 100000 in
set_option maxHeartbeats 4000000 in
theorem k_Thought_leastSum {l1 : Int} {g : zi_M} {Q : Int → zi_M → Prop} (I : zk_I g) (p1 : 1 ≤ l1 ∧ l1 ≤ 6) (hQ : ∀ v : Int, (0 ≤ v ∧ v ≤ 720) → (v = g 189 (l1 * 13)) → Q v g) : w_Thought_leastSum l1 g Q := by
  unfold w_Thought_leastSum
  refine k_Thought_storm I ⟨by omega, by omega⟩ (by omega) (fun v1 b_1 => ?_)
  refine ⟨⟨by omega, by omega⟩, ?_⟩
  have m_2 : 0 ≤ (g 189 v1) ∧ (g 189 v1) ≤ 720 := I.1 189 v1
  exact hQ _ ⟨by omega, by omega⟩ (by exact zeq_at (by omega))
-- SpoutNews$Thought.secondStorm(LSpoutNews$Told;I)I
set_option maxRecDepth 100000 in
set_option maxHeartbeats 4000000 in
theorem k_Thought_secondStorm_l2 {g : zi_M} (I : zk_I g) {l2 : Int} {K35 : Int → zi_M → Prop} {K43 : zi_M → Prop} {Q : Int → zi_M → Prop} (q2 : 1 ≤ l2 ∧ l2 ≤ 6) (hK35 : ∀ (k3 : Int), (1 ≤ k3 ∧ k3 ≤ 11) → (2 ≤ l2) → (k3 ≤ g 36 12 - l2 + 1) → (zSe g l2 k3) → (∀ j : Int, 1 ≤ j → j < k3 → ¬ zSe g l2 j) → K35 k3 g) (hK43 : (l2 < 2 ∨ ∀ j : Int, 1 ≤ j → j ≤ g 36 12 - l2 + 1 → ¬ zSe g l2 j) → K43 g) (hQ : ∀ v : Int, ((-1) ≤ v ∧ v ≤ 11) → (¬ v = -1 → (2 ≤ l2 ∧ 1 ≤ v ∧ v ≤ g 36 12 - l2 + 1) ∧ zSe g l2 v ∧ ∀ j : Int, 1 ≤ j → j < v → ¬ zSe g l2 j) → (v = -1 → l2 < 2 ∨ ∀ j : Int, 1 ≤ j → j ≤ g 36 12 - l2 + 1 → ¬ zSe g l2 j) → Q v g) : ∀ (n : Nat) {l3 : Int}, (1 ≤ l3 ∧ l3 ≤ 12) → (∀ j : Int, 1 ≤ j → j < l3 → ¬ zSe g l2 j) → 12 - l3 < (n : Int) → w_Thought_secondStorm_l2 l2 K35 K43 Q n l3 g
  | 0, l3, b0, b1, hm => by exfalso; omega
  | n + 1, l3, b0, b1, hm => by
    unfold w_Thought_secondStorm_l2
    refine ⟨⟨by omega, by omega⟩, ?_⟩
    refine ⟨fun c14 => ?_, fun c14 => ?_⟩
    · have m_1 : 0 ≤ (g 36 12) ∧ (g 36 12) ≤ 12 := I.1 36 12
      exact hK43 (by first | exact Or.inl (by omega) | exact Or.inr (zSe_e (by assumption) (by omega)))
    · have m_2 : 0 ≤ (g 36 12) ∧ (g 36 12) ≤ 12 := I.1 36 12
      refine ⟨⟨by omega, by omega⟩, ⟨by omega, by omega⟩, ?_⟩
      refine ⟨fun c13 => ?_, fun c13 => ?_⟩
      · exact hK43 (by first | exact Or.inl (by omega) | exact Or.inr (zSe_e (by assumption) (by omega)))
      · refine k_Thought_greatestSum I ⟨by omega, by omega⟩ ⟨by omega, by omega⟩ ⟨by omega, by omega⟩ (fun v4 b_3 b_4 => ?_)
        have m_5 : 0 ≤ (g 189 (l2 * 13)) ∧ (g 189 (l2 * 13)) ≤ 720 := I.1 189 (l2 * 13)
        refine k_Thought_leastSum I ⟨by omega, by omega⟩ (fun v7 b_6 b_7 => ?_)
        refine ⟨⟨by omega, by omega⟩, ⟨by omega, by omega⟩, ?_⟩
        refine ⟨fun c12 => ?_, fun c12 => ?_⟩
        · exact k_Thought_secondStorm_l2 I q2 hK35 hK43 hQ n ⟨by omega, by omega⟩ (by first | (intro j j1 j2; exfalso; omega) | exact zSe_st (by assumption) (by assumption) (by assumption) (by omega) (by assumption)) (by omega)
        · exact hK35 _ ⟨by omega, by omega⟩ (by omega) (by omega) (by exact zSe_f (by assumption) (by assumption) (by omega) (by assumption)) (by assumption)
set_option maxRecDepth 100000 in
set_option maxHeartbeats 4000000 in
theorem k_Thought_secondStorm {l2 : Int} {g : zi_M} {Q : Int → zi_M → Prop} (I : zk_I g) (p2 : 1 ≤ l2 ∧ l2 ≤ 6) (hQ : ∀ v : Int, ((-1) ≤ v ∧ v ≤ 11) → (¬ v = -1 → (2 ≤ l2 ∧ 1 ≤ v ∧ v ≤ g 36 12 - l2 + 1) ∧ zSe g l2 v ∧ ∀ j : Int, 1 ≤ j → j < v → ¬ zSe g l2 j) → (v = -1 → l2 < 2 ∨ ∀ j : Int, 1 ≤ j → j ≤ g 36 12 - l2 + 1 → ¬ zSe g l2 j) → Q v g) : w_Thought_secondStorm l2 g Q := by
  unfold w_Thought_secondStorm
  refine ⟨((12 - 1 : Int).toNat + 1), k_Thought_secondStorm_l2 (l2 := l2) I ⟨by omega, by omega⟩ (fun k15 b_8 b_9 b_10 b_11 b_12 => ?_) (fun b_13 => ?_) hQ ((12 - 1 : Int).toNat + 1) ⟨by omega, by omega⟩ (by first | (intro j j1 j2; exfalso; omega) | exact zSe_st (by assumption) (by assumption) (by assumption) (by omega) (by assumption)) (by omega)⟩
  · exact hQ _ ⟨by omega, by omega⟩ (by intro hv; first | (exfalso; omega) | exact ⟨⟨by omega, by omega, by omega⟩, by assumption, by assumption⟩) (by intro hv; first | assumption | (exfalso; omega))
  · exact hQ _ ⟨by omega, by omega⟩ (by intro hv; first | (exfalso; omega) | exact ⟨⟨by omega, by omega, by omega⟩, by assumption, by assumption⟩) (by intro hv; first | assumption | (exfalso; omega))
-- SpoutNews.read(II)I
theorem k_S_read {l1 : Int} {l2 : Int} {g : zi_M} {Q : Int → zi_M → Prop} (I : zk_I g) (p1 : (-2147483648) ≤ l1 ∧ l1 ≤ 2147483647) (p2 : (-2147483648) ≤ l2 ∧ l2 ≤ 2147483647) (hQ : ∀ (v : Int) (g' : zi_M), zk_I g' → zk_fr fr_S_read g g' → ((-1) ≤ v ∧ v ≤ 720) → (¬ ((1 ≤ l1 ∧ l1 ≤ 6 ∧ l1 ≤ g 36 12) ∧ (l2 = 0 ∨ l2 = 1)) → v = -1) → (1 ≤ l1 ∧ l1 ≤ 6 ∧ l1 ≤ g 36 12 → l2 = 0 → v = zDP (g 45) (g 36 12) l1.toNat 0) → (1 ≤ l1 ∧ l1 ≤ 6 ∧ l1 ≤ g 36 12 → l2 = 1 → l1 = 1 → v = -1) → (1 ≤ l1 ∧ l1 ≤ 6 ∧ l1 ≤ g 36 12 → l2 = 1 → 2 ≤ l1 → (1 ≤ v ∧ v ≤ g 36 12) ∧ zFs (g 45) (g 36 12) l1.toNat v ∧ ∀ j : Int, 1 ≤ j → j < v → ¬ zFs (g 45) (g 36 12) l1.toNat j) → Q v g') : w_S_read l1 l2 g Q := by
  have c12 : 0 ≤ g 36 12 ∧ g 36 12 ≤ 12 := I.1 36 12
  have b36 : (1 ≤ l1 ∧ l1 ≤ 6 ∧ l1 ≤ g 36 12) → (l2 = 0 ∨ l2 = 1) → w_S_read_b36 l1 l2 g Q := by
    intro ok h2
    unfold w_S_read_b36
    refine k_Thought_readInStorms I ⟨by omega, by omega⟩ (fun g5 I5 F5 T5 => ?_)
    have F4 : zk_fr fr_S_read g g5 := fun a i h => F5 a i h
    have e45 : g5 45 = g 45 := funext (fun i => F5 45 i (by unfold fr_Thought_readInStorms; decide))
    have e36 : g5 36 12 = g 36 12 := F5 36 12 (by unfold fr_Thought_readInStorms; decide)
    refine ⟨⟨by omega, by omega⟩, fun c => ?_, fun c => ?_⟩
    · refine k_Thought_secondStorm I5 ⟨by omega, by omega⟩ (fun v8 b5 d1 d2 => ?_)
      rw [e36] at d1 d2
      refine hQ _ _ I5 F4 ⟨by omega, by omega⟩ (fun h => absurd ⟨ok, h2⟩ h) (fun _ h => absurd h c) (fun _ _ h1 => ?_) (fun _ _ h1 => ?_)
      · by_cases q : v8 = -1
        · exact q
        · have := (d1 q).1.1
          exfalso; omega
      · by_cases q : v8 = -1
        · exfalso
          rcases d2 q with w | w
          · omega
          · obtain ⟨j, j1, j2, j3⟩ := zFs_ex (zf45 I) c12.2 (k := l1.toNat) (by omega) (by omega)
            exact w j j1 (by omega) ((zSe_Fs e45 e36 T5 h1 ok.2.2 j1 (by omega)).mpr j3)
        · obtain ⟨⟨a1, a2, a3⟩, a4, a5⟩ := d1 q
          exact ⟨⟨a2, by omega⟩, (zSe_Fs e45 e36 T5 h1 ok.2.2 a2 a3).mp a4, fun j j1 j2 w => a5 j j1 j2 ((zSe_Fs e45 e36 T5 h1 ok.2.2 j1 (by omega)).mpr w)⟩
    · refine k_Thought_leastSum I5 ⟨by omega, by omega⟩ (fun v11 b6 e6 => ?_)
      refine hQ _ _ I5 F4 ⟨by omega, by omega⟩ (fun h => absurd ⟨ok, h2⟩ h) (fun _ _ => ?_) (fun _ h => by omega) (fun _ h => by omega)
      have t := T5 l1 0 (by omega) (by decide) (by omega) (Or.inl (by omega))
      rw [Int.add_zero, e45, e36] at t
      rw [e6, t]
  have no : ¬ ((1 ≤ l1 ∧ l1 ≤ 6 ∧ l1 ≤ g 36 12) ∧ (l2 = 0 ∨ l2 = 1)) → Q (-1) g := fun h => hQ _ _ I (zk_f0 _) ⟨by omega, by omega⟩ (fun _ => rfl) (fun a b => absurd ⟨a, Or.inl b⟩ h) (fun _ _ _ => rfl) (fun a b => absurd ⟨a, Or.inr b⟩ h)
  unfold w_S_read
  exact ⟨⟨by omega, by omega⟩, fun c => no (by omega), fun c1 => ⟨fun c => no (by omega), fun c2 => ⟨⟨by omega, by omega⟩, fun c => no (by omega), fun c3 => ⟨⟨by omega, by omega⟩, fun c => b36 ⟨c1, c2, c3⟩ (Or.inl c), fun c => ⟨fun d => b36 ⟨c1, c2, c3⟩ (Or.inr d), fun d => no (by omega)⟩⟩⟩⟩⟩

-- SpoutNewsModel.minutesOf(II)I
theorem k_M_minutesOf_l5 {g : zi_M} {l1 l2 : Int} {K : Int → zi_M → Prop} {Q : Int → zi_M → Prop} (I : zk_I g) (p1 : 0 ≤ l1 ∧ l1 ≤ 12) (p2 : 1 ≤ l2 ∧ l2 ≤ 12) (hK : ∀ v, 0 ≤ v → v ≤ 720 → v = zmin g l1 l2 → K v g) :
    ∀ (n : Nat) (l3 l4 : Int), l1 ≤ l4 → (l4 ≤ l2 ∨ l4 = l1) → l3 = zmin g l1 l4 → 0 ≤ l3 → l3 ≤ 60 * (l4 - l1) → 12 - l4 < (n : Int) → w_M_minutesOf_l5 l2 K Q n l3 l4 g
  | 0, l3, l4, h1, h2, h3, h4, h5, hm => by exfalso; omega
  | n + 1, l3, l4, h1, h2, h3, h4, h5, hm => by
    unfold w_M_minutesOf_l5
    refine ⟨⟨by omega, by omega⟩, ⟨by omega, by omega⟩, fun h => hK l3 h4 (by omega) ?_, fun h => ⟨⟨by omega, by omega⟩, ?_⟩⟩
    · rcases h2 with q | q
      · rw [h3, show l4 = l2 by omega]
      · rw [h3, q, zmin_0 (Int.le_refl _), zmin_0 (by omega)]
    · have r : 0 ≤ g 248 l4 ∧ g 248 l4 ≤ 60 := I.1 248 l4
      exact k_M_minutesOf_l5 I p1 p2 hK n _ (l4 + 1) (by omega) (by omega) (by rw [zmin_s h1, h3]) (by omega) (by omega) (by omega)
theorem k_M_minutesOf {l1 : Int} {l2 : Int} {g : zi_M} {Q : Int → zi_M → Prop} (I : zk_I g) (p1 : 0 ≤ l1 ∧ l1 ≤ 12) (p2 : 1 ≤ l2 ∧ l2 ≤ 12) (hQ : ∀ v : Int, (0 ≤ v ∧ v ≤ 720) → (v = zmin g l1 l2) → (v = zSm (g 248) l1 l2) → Q v g) : w_M_minutesOf l1 l2 g Q := by
  unfold w_M_minutesOf
  exact ⟨13, k_M_minutesOf_l5 I p1 p2 (fun v h0 h1 h => hQ v ⟨h0, h1⟩ h (by rw [h, zmin_eq])) 13 0 l1 (Int.le_refl _) (Or.inr rfl) (zmin_0 (Int.le_refl _)).symm (by decide) (by omega) (by omega)⟩

-- SpoutNewsModel.findsRead(I)V
theorem k_M_findsRead_l50 {g : zi_M} {k l2 l3 : Int} {K : Int → zi_M → Prop} {Q : Int → zi_M → Prop} (I : zk_I g) (q2 : 0 ≤ l2 ∧ l2 ≤ 12) (q3 : 1 ≤ l3 ∧ l3 ≤ 6) (qk : l3 ≤ k) (hz : zMb g k l2) (hl : l2 ≤ g 214 58) (hK : ∀ v, 0 ≤ v → v ≤ 100000000 → v = zDP (g 248) (g 214 58) l3.toNat l2 → K v g) :
    ∀ (n : Nat) (l4 l5 : Int), 0 ≤ l4 → l4 ≤ 100000000 → l2 + 1 ≤ l5 → l5 ≤ g 214 58 + 1 → l4 = zLo (g 248) (zDP (g 248) (g 214 58) (l3 - 1).toNat) l2 (l5 - l2 - 1).toNat → 13 - l5 < (n : Int) → w_M_findsRead_l50 l2 l3 K Q n l4 l5 g
  | 0, l4, l5, h0, h1, h2, h3, h4, hm => by
    have c : 0 ≤ g 214 58 ∧ g 214 58 ≤ 12 := I.1 214 58
    exfalso; omega
  | n + 1, l4, l5, h0, h1, h2, h3, h4, hm => by
    have c : 0 ≤ g 214 58 ∧ g 214 58 ≤ 12 := I.1 214 58
    unfold w_M_findsRead_l50
    refine ⟨⟨by omega, by omega⟩, zk_rng I _ _, fun h => hK l4 h0 h1 (zDP_sx q3.1 ?_), fun h => ?_⟩
    · rw [h4, show l5 - l2 - 1 = g 214 58 - l2 by omega]
    · refine k_M_minutesOf I ⟨q2.1, by omega⟩ ⟨by omega, by omega⟩ (fun v9 r9 e8 e9 => ⟨⟨by omega, by omega⟩, ?_⟩)
      have rf : 0 ≤ g 249 (7 * l5 + l3 - 1) ∧ g 249 (7 * l5 + l3 - 1) ≤ 100000000 := I.1 249 _
      have ez := hz l5 (l3 - 1) (by omega) (by omega) (by omega) (by omega)
      rw [show 7 * l5 + (l3 - 1) = 7 * l5 + l3 - 1 by omega] at ez
      clear e8
      refine k_M_greater I ⟨by omega, by omega⟩ ⟨by omega, by omega⟩ (fun v13 a1 a2 => ?_)
      have e13 : v13 = max (zSm (g 248) l2 l5) (zDP (g 248) (g 214 58) (l3 - 1).toNat l5) := by rw [← e9, ← ez]; omega
      refine k_M_lesser I ⟨by omega, by omega⟩ ⟨by omega, by omega⟩ (fun v16 b1 b2 => ?_)
      exact k_M_findsRead_l50 I q2 q3 qk hz hl hK n v16 (l5 + 1) (by omega) (by omega) (by omega) (by omega) (zLo_st h4 e13 h2 (by omega)) (by omega)
theorem k_M_findsRead_l35 {g0 : zi_M} {l1 l2 : Int} {K : zi_M → Prop} {Q : Int → zi_M → Prop} (q1 : 1 ≤ l1 ∧ l1 ≤ 6) (q2 : 0 ≤ l2 ∧ l2 ≤ 12) (hK : ∀ g, zk_I g → zk_fr fr_M_findsRead g0 g → zMb g l1 (l2 + (-1)) → K g) :
    ∀ (n : Nat) (l3 : Int) (g : zi_M), zk_I g → zk_fr fr_M_findsRead g0 g → 1 ≤ l3 → l3 ≤ 7 → zMm g l1 l2 l3 → l2 ≤ g 214 58 → 7 - l3 < (n : Int) → w_M_findsRead_l35 l1 l2 K Q n l3 g
  | 0, l3, g, I, F, h0, h1, h2, h3, hm => by exfalso; omega
  | n + 1, l3, g, I, F, h0, h1, h2, h3, hm => by
    have c : 0 ≤ g 214 58 ∧ g 214 58 ≤ 12 := I.1 214 58
    unfold w_M_findsRead_l35
    refine ⟨⟨by omega, by omega⟩, ⟨by omega, by omega⟩, fun h => hK g I F (zMm_x h2 h), fun h => ⟨14, ?_⟩⟩
    refine k_M_findsRead_l50 I q2 ⟨h0, by omega⟩ (by omega) h2.1 h3 (fun v v0 v1 hv => ⟨⟨by omega, by omega⟩, ?_⟩) 14 100000000 (l2 + 1) (by decide) (by decide) (Int.le_refl _) (by omega) (by rw [show (l2 + 1 - l2 - 1).toNat = 0 by omega]; rfl) (by omega)
    intro g23 e23
    have I23 : zk_I g23 := by rw [e23]; exact zk_upd (L := 0) (H := 100000000) rfl rfl I ⟨v0, v1⟩
    have F23 : zk_fr fr_M_findsRead g0 g23 := by rw [e23]; exact zk_fu F rfl
    refine k_M_findsRead_l35 q1 q2 hK n (l3 + 1) g23 I23 F23 (by omega) (by omega) (zMm_st h2 e23 rfl hv ⟨by omega, by omega⟩ q1.2) (by rw [zv_58 e23]; exact h3) (by omega)
theorem k_M_findsRead_l5 {g0 : zi_M} {l1 : Int} {K : zi_M → Prop} {Q : Int → zi_M → Prop} (q1 : 1 ≤ l1 ∧ l1 ≤ 6) (hK : ∀ g, zk_I g → zk_fr fr_M_findsRead g0 g → zMb g l1 (-1) → K g) :
    ∀ (n : Nat) (l2 : Int) (g : zi_M), zk_I g → zk_fr fr_M_findsRead g0 g → -1 ≤ l2 → l2 ≤ 12 → l2 ≤ g 214 58 → zMb g l1 l2 → l2 + 1 < (n : Int) → w_M_findsRead_l5 l1 K Q n l2 g
  | 0, l2, g, I, F, h0, h1, h2, h3, hm => by exfalso; omega
  | n + 1, l2, g, I, F, h0, h1, h2, h3, hm => by
    unfold w_M_findsRead_l5
    have fin : 0 ≤ l2 → ∀ (v : Int) (g4 : zi_M), 0 ≤ v → v ≤ 100000000 → v = zDP (g 248) (g 214 58) 0 l2 → g4 = zi_u g 249 (7 * l2) v → (∃ f, w_M_findsRead_l35 l1 l2 (fun g26 => w_M_findsRead_l5 l1 K Q n (l2 + (-1)) g26) Q f 1 g4) := by
      intro hl v g4 v0 v1 ev e4
      have I4 : zk_I g4 := by rw [e4]; exact zk_upd (L := 0) (H := 100000000) rfl rfl I ⟨v0, v1⟩
      have F4 : zk_fr fr_M_findsRead g0 g4 := by rw [e4]; exact zk_fu F rfl
      refine ⟨7, k_M_findsRead_l35 q1 ⟨hl, h1⟩ (fun g' I' F' h' => ?_) 7 1 g4 I4 F4 (by decide) (by decide) (zMm_0 h3 e4 rfl ev q1.2) (by rw [zv_58 e4]; exact h2) (by decide)⟩
      have e58 : g' 214 58 = g 214 58 := (F' 214 58 (by unfold fr_M_findsRead; decide)).trans (F 214 58 (by unfold fr_M_findsRead; decide)).symm
      exact k_M_findsRead_l5 q1 hK n (l2 + (-1)) g' I' F' (by omega) (by omega) (by omega) h' (by omega)
    refine ⟨⟨by omega, by omega⟩, fun h => hK g I F (by rw [show (-1 : Int) = l2 by omega]; exact h3), fun h => ⟨zk_rng I _ _, fun c => ⟨⟨by omega, by omega⟩, fun g4 e4 => fin h _ g4 (by decide) (by decide) (by show (100000000 : Int) = if l2 = g 214 58 then 0 else 100000000; rw [if_neg c]) e4⟩, fun c => ⟨⟨by omega, by omega⟩, fun g4 e4 => fin h _ g4 (by decide) (by decide) (by show (0 : Int) = if l2 = g 214 58 then 0 else 100000000; rw [if_pos c]) e4⟩⟩⟩
theorem k_M_findsRead {l1 : Int} {g : zi_M} {Q : Int → zi_M → Prop} (I : zk_I g) (p1 : 1 ≤ l1 ∧ l1 ≤ 6) (hQ : ∀ g' : zi_M, zk_I g' → zk_fr fr_M_findsRead g g' → (zMb g' l1 (-1)) → Q 0 g') : w_M_findsRead l1 g Q := by
  unfold w_M_findsRead
  have c : 0 ≤ g 214 58 ∧ g 214 58 ≤ 12 := I.1 214 58
  exact ⟨14, k_M_findsRead_l5 p1 (fun g' I' F' h => hQ g' I' F' h) 14 (g 214 58) g I (zk_f0 _) (by omega) c.2 (Int.le_refl _) (fun a l h0 h1 => by exfalso; omega) (by omega)⟩

-- SpoutNewsModel.read(II)I
theorem k_M_read_l61 {g : zi_M} {l1 : Int} {K : Int → zi_M → Prop} {Q : Int → zi_M → Prop} (I : zk_I g) (q1 : 1 ≤ l1 ∧ l1 ≤ 6) {to : Int} (t2 : to ≤ 12) (t3 : zMe g l1 to) (hK : ∀ v, 1 ≤ v → v ≤ to → zMe g l1 v → (∀ j : Int, 1 ≤ j → j < v → ¬ zMe g l1 j) → K v g) :
    ∀ (n : Nat) (l3 : Int), 1 ≤ l3 → l3 ≤ to → (∀ j : Int, 1 ≤ j → j < l3 → ¬ zMe g l1 j) → to - l3 < (n : Int) → w_M_read_l61 l1 K Q n l3 g
  | 0, l3, h0, h1, h2, hm => by exfalso; omega
  | n + 1, l3, h0, h1, h2, hm => by
    unfold w_M_read_l61
    refine k_M_minutesOf I ⟨by decide, by decide⟩ ⟨h0, by omega⟩ (fun v14 r14 e13 e14 => ⟨⟨by omega, by omega⟩, ?_⟩)
    clear e13
    have rf : 0 ≤ g 249 (7 * l3 + l1 - 1) ∧ g 249 (7 * l3 + l1 - 1) ≤ 100000000 := I.1 249 _
    refine k_M_greater I ⟨by omega, by omega⟩ ⟨by omega, by omega⟩ (fun v18 a1 a2 => ?_)
    have e18 : v18 = max (zSm (g 248) 0 l3) (g 249 (7 * l3 + l1 - 1)) := by rw [← e14]; omega
    refine ⟨⟨by omega, by omega⟩, ⟨by omega, by omega⟩, zk_rng I _ _, fun eq => hK l3 h0 h1 ?_ h2, fun ne => ?_⟩
    · show max (zSm (g 248) 0 l3) (g 249 (7 * l3 + l1 - 1)) = g 249 l1
      rw [← e18]
      exact eq
    · have nl : ¬ zMe g l1 l3 := fun w => ne (e18.trans (show max (zSm (g 248) 0 l3) (g 249 (7 * l3 + l1 - 1)) = g 249 l1 from w))
      by_cases e : l3 = to
      · exact absurd (by rw [e]; exact t3) nl
      · refine k_M_read_l61 I q1 t2 t3 hK n (l3 + 1) (by omega) (by omega) (fun j j1 j2 w => ?_) (by omega)
        by_cases c : j = l3
        · exact nl (by rw [← c]; exact w)
        · exact h2 j j1 (by omega) w
theorem k_M_read {l1 : Int} {l2 : Int} {g : zi_M} {Q : Int → zi_M → Prop} (I : zk_I g) (p1 : (-2147483648) ≤ l1 ∧ l1 ≤ 2147483647) (p2 : (-2147483648) ≤ l2 ∧ l2 ≤ 2147483647) (hQ : ∀ (v : Int) (g' : zi_M), zk_I g' → zk_fr fr_M_read g g' → ((-1) ≤ v) → (¬ ((1 ≤ l1 ∧ l1 ≤ 6 ∧ l1 ≤ g 214 58) ∧ (l2 = 0 ∨ l2 = 1)) → v = -1) → (1 ≤ l1 ∧ l1 ≤ 6 ∧ l1 ≤ g 214 58 → l2 = 0 → v = zDP (g 248) (g 214 58) l1.toNat 0) → (1 ≤ l1 ∧ l1 ≤ 6 ∧ l1 ≤ g 214 58 → l2 = 1 → l1 = 1 → v = -1) → (1 ≤ l1 ∧ l1 ≤ 6 ∧ l1 ≤ g 214 58 → l2 = 1 → 2 ≤ l1 → (1 ≤ v ∧ v ≤ g 214 58) ∧ zFs (g 248) (g 214 58) l1.toNat v ∧ ∀ j : Int, 1 ≤ j → j < v → ¬ zFs (g 248) (g 214 58) l1.toNat j) → Q v g') : w_M_read l1 l2 g Q := by
  unfold w_M_read
  intro g1 e1
  have I1 : zk_I g1 := by rw [e1]; exact zk_upd (L := -2147483648) (H := 2147483647) rfl rfl I ⟨by decide, by decide⟩
  have F1 : zk_fr fr_M_read g g1 := by rw [e1]; exact zk_fu (zk_f0 _) (Or.inr ⟨rfl, rfl⟩)
  have c1 : g1 214 58 = g 214 58 := by rw [e1]; exact zi_u_ni (by decide)
  have r1 : 0 ≤ g1 214 58 ∧ g1 214 58 ≤ 12 := I1.1 214 58
  have no : ¬ ((1 ≤ l1 ∧ l1 ≤ 6 ∧ l1 ≤ g 214 58) ∧ (l2 = 0 ∨ l2 = 1)) → Q (-1) g1 := fun h => hQ _ _ I1 F1 (by omega) (fun _ => rfl) (fun a b => absurd ⟨a, Or.inl b⟩ h) (fun _ _ _ => rfl) (fun a b => absurd ⟨a, Or.inr b⟩ h)
  refine k_M_isIn I1 p1 ⟨by decide, by decide⟩ ⟨by decide, by decide⟩ (fun v2 a1 a2 a3 => ⟨fun _ => no (by omega), fun n2 => ⟨p1, zk_rng I1 _ _, fun _ => no (by omega), fun hc => ?_⟩⟩)
  refine k_M_isIn I1 p2 ⟨by decide, by decide⟩ ⟨by decide, by decide⟩ (fun v7 b1 b2 b3 => ⟨fun n7 => ?_, fun _ => no (by omega)⟩)
  have ok : 1 ≤ l1 ∧ l1 ≤ 6 ∧ l1 ≤ g 214 58 := by omega
  have ok2 : l2 = 0 ∨ l2 = 1 := by omega
  refine k_M_findsRead I1 ⟨by omega, by omega⟩ (fun g11 I11 F11 T11 => ?_)
  have F11' : zk_fr fr_M_read g g11 := zk_ft F1 F11 (fun a i h => Or.inl h)
  have e58 : g11 214 58 = g 214 58 := (F11 _ _ (by unfold fr_M_findsRead; omega)).trans c1
  have e248 : g11 248 = g 248 := funext (fun i => (F11 248 i (by unfold fr_M_findsRead; decide)).trans (by rw [e1]; exact zi_u_ne (by decide)))
  have r11 : 0 ≤ g11 214 58 ∧ g11 214 58 ≤ 12 := I11.1 214 58
  have rl : 0 ≤ g11 249 l1 ∧ g11 249 l1 ≤ 100000000 := I11.1 249 l1
  refine ⟨p2, fun n0 => ⟨fun n1 => ?_, fun y1 => hQ _ _ I11 F11' (by omega) (fun h => absurd ⟨ok, ok2⟩ h) (fun _ h => absurd h n0) (fun _ _ _ => rfl) (fun _ _ h => by omega)⟩, fun y0 => ⟨⟨by omega, by omega⟩, hQ _ _ I11 F11' (by omega) (fun h => absurd ⟨ok, ok2⟩ h) (fun _ _ => ?_) (fun _ h => by omega) (fun _ h => by omega)⟩⟩
  · obtain ⟨to, t1, t2, t3⟩ := zFs_ex (zf248 I) (show g 214 58 ≤ 12 by omega) (k := l1.toNat) (by omega) (by omega)
    have t4 : zMe g11 l1 to := (zMe_Fs e248 e58 T11 ok.1 t1 (by omega)).mpr t3
    exact ⟨13, k_M_read_l61 I11 ⟨by omega, by omega⟩ (by omega) t4 (fun v h0 h1 w1 w2 => hQ _ _ I11 F11' (by omega) (fun h => absurd ⟨ok, ok2⟩ h) (fun _ h => absurd h n0) (fun _ _ h => absurd h n1) (fun _ _ _ => ⟨⟨h0, by omega⟩, (zMe_Fs e248 e58 T11 ok.1 h0 (by omega)).mp w1, fun j j1 j2 w => w2 j j1 j2 ((zMe_Fs e248 e58 T11 ok.1 j1 (by omega)).mpr w)⟩)) 13 1 (by decide) t1 (fun j j1 j2 => by omega) (by omega)⟩
  · have t := T11 0 l1 (by decide) (by omega) (by omega) (Int.le_refl _)
    rw [show 7 * 0 + l1 = l1 by omega, e248, e58] at t
    exact t

-- SpoutNews$Thought.goodTake(LSpoutNews$World;I)I
set_option maxRecDepth 100000 in
set_option maxHeartbeats 4000000 in
theorem k_Thought_goodTake_l14 {g : zi_M} (I : zk_I g) {l1 : Int} {K48 : Int → zi_M → Prop} {Q : Int → zi_M → Prop} (q1 : 0 ≤ l1 ∧ l1 ≤ 9) (hK48 : ∀ (k2 : Int), (0 ≤ k2 ∧ k2 ≤ 3) → K48 k2 g) (hQ : ∀ v : Int, ((-1) ≤ v ∧ v ≤ 4) → Q v g) : ∀ (n : Nat) {l2 : Int} {l3 : Int}, (0 ≤ l2 ∧ l2 ≤ 3) → (0 ≤ l3 ∧ l3 ≤ 10) → 10 - l3 < (n : Int) → w_Thought_goodTake_l14 l1 K48 Q n l2 l3 g
  | 0, l2, l3, b0, b1, hm => by exfalso; omega
  | n + 1, l2, l3, b0, b1, hm => by
    unfold w_Thought_goodTake_l14
    have m_5 : 0 ≤ (g 2 8) ∧ (g 2 8) ≤ 10 := I.1 2 8
    refine ⟨⟨by omega, by omega⟩, ⟨by omega, by omega⟩, ?_⟩
    refine ⟨fun c10 => ?_, fun c10 => ?_⟩
    · exact hK48 _ ⟨by omega, by omega⟩
    · refine ⟨⟨by omega, by omega⟩, ?_⟩
      refine ⟨fun c9 => ?_, fun c9 => ?_⟩
      · refine ⟨⟨by omega, by omega⟩, ?_⟩
        have m_6 : 0 ≤ (g 8 l3) ∧ (g 8 l3) ≤ 20 := I.1 8 l3
        refine ⟨⟨by omega, by omega⟩, ?_⟩
        have m_7 := zi_tmod_f (g 8 l3) 3
        have m_8 := zi_tmod_c (g 8 l3) 3 (by decide)
        first | have m_9 := (zi_xor_f l2 (Int.tmod (g 8 l3) 3)).2.1 ⟨by omega, by omega, by omega, by omega⟩ | have m_9 := (zi_xor_f l2 (Int.tmod (g 8 l3) 3)).2.2.1 ⟨by omega, by omega, by omega, by omega⟩ | have m_9 := (zi_xor_f l2 (Int.tmod (g 8 l3) 3)).2.2.2 ⟨by omega, by omega, by omega, by omega⟩ | have m_9 := zi_r_xor l2 (Int.tmod (g 8 l3) 3)
        exact k_Thought_goodTake_l14 I q1 hK48 hQ n ⟨by omega, by omega⟩ ⟨by omega, by omega⟩ (by omega)
      · first | have m_10 := (zi_xor_f l2 0).2.1 ⟨by omega, by omega, by omega, by omega⟩ | have m_10 := (zi_xor_f l2 0).2.2.1 ⟨by omega, by omega, by omega, by omega⟩ | have m_10 := (zi_xor_f l2 0).2.2.2 ⟨by omega, by omega, by omega, by omega⟩ | have m_10 := zi_r_xor l2 0
        exact k_Thought_goodTake_l14 I q1 hK48 hQ n ⟨by omega, by omega⟩ ⟨by omega, by omega⟩ (by omega)
set_option maxRecDepth 100000 in
set_option maxHeartbeats 4000000 in
theorem k_Thought_goodTake_l50 {g : zi_M} (I : zk_I g) {l1 : Int} {l2 : Int} {K79 : Int → zi_M → Prop} {K88 : zi_M → Prop} {Q : Int → zi_M → Prop} (q1 : 0 ≤ l1 ∧ l1 ≤ 9) (q2 : 0 ≤ l2 ∧ l2 ≤ 3) (hK79 : ∀ (k3 : Int), (1 ≤ k3 ∧ k3 ≤ 4) → K79 k3 g) (hK88 : K88 g) (hQ : ∀ v : Int, ((-1) ≤ v ∧ v ≤ 4) → Q v g) : ∀ (n : Nat) {l3 : Int}, (1 ≤ l3 ∧ l3 ≤ 8) → 8 - l3 < (n : Int) → w_Thought_goodTake_l50 l1 l2 K79 K88 Q n l3 g
  | 0, l3, b0, hm => by exfalso; omega
  | n + 1, l3, b0, hm => by
    unfold w_Thought_goodTake_l50
    refine ⟨⟨by omega, by omega⟩, ?_⟩
    refine ⟨fun c21 => ?_, fun c21 => ?_⟩
    · exact hK88
    · refine ⟨⟨by omega, by omega⟩, ?_⟩
      have m_12 : 0 ≤ (g 8 l1) ∧ (g 8 l1) ≤ 20 := I.1 8 l1
      refine ⟨⟨by omega, by omega⟩, ?_⟩
      refine ⟨fun c20 => ?_, fun c20 => ?_⟩
      · exact hK88
      · refine ⟨⟨by omega, by omega⟩, ?_⟩
        have m_13 := zi_tmod_f ((g 8 l1) - l3) 3
        have m_14 := zi_tmod_c ((g 8 l1) - l3) 3 (by decide)
        refine ⟨⟨by omega, by omega⟩, ⟨by omega, by omega⟩, ?_⟩
        refine ⟨fun c19 => ?_, fun c19 => ?_⟩
        · exact k_Thought_goodTake_l50 I q1 q2 hK79 hK88 hQ n ⟨by omega, by omega⟩ (by omega)
        · exact hK79 _ ⟨by omega, by omega⟩
set_option maxRecDepth 100000 in
set_option maxHeartbeats 4000000 in
theorem k_Thought_goodTake {l1 : Int} {g : zi_M} {Q : Int → zi_M → Prop} (I : zk_I g) (p1 : (-1) ≤ l1 ∧ l1 ≤ 9) (hQ : ∀ v : Int, ((-1) ≤ v ∧ v ≤ 4) → Q v g) : w_Thought_goodTake l1 g Q := by
  unfold w_Thought_goodTake
  have m_4 : 0 ≤ (g 2 8) ∧ (g 2 8) ≤ 10 := I.1 2 8
  refine k_World_isSpout rfl I ⟨by omega, by omega⟩ (fun v1 b_1 b_2 b_3 => ?_)
  try simp only [Nat.reduceAdd] at b_1 b_2 b_3
  refine ⟨fun c27 => ?_, fun c27 => ?_⟩
  · refine ⟨((10 - 0 : Int).toNat + 1), k_Thought_goodTake_l14 (l1 := l1) I ⟨by omega, by omega⟩ (fun k11 b_11 => ?_) hQ ((10 - 0 : Int).toNat + 1) ⟨by omega, by omega⟩ ⟨by omega, by omega⟩ (by omega)⟩
    refine ⟨((8 - 1 : Int).toNat + 1), k_Thought_goodTake_l50 (l1 := l1) (l2 := k11) I ⟨by omega, by omega⟩ ⟨by omega, by omega⟩ (fun k22 b_15 => ?_) (?_) hQ ((8 - 1 : Int).toNat + 1) ⟨by omega, by omega⟩ (by omega)⟩
    · exact hQ _ ⟨by omega, by omega⟩
    · exact hQ _ ⟨by omega, by omega⟩
  · exact hQ _ ⟨by omega, by omega⟩
-- SpoutNews$Thought.goodSpout(LSpoutNews$World;)I
set_option maxRecDepth 100000 in
set_option maxHeartbeats 4000000 in
theorem k_Thought_goodSpout_l2 {g : zi_M} (I : zk_I g) {K19 : Int → zi_M → Prop} {K27 : zi_M → Prop} {Q : Int → zi_M → Prop} (hK19 : ∀ (k1 : Int), (0 ≤ k1 ∧ k1 ≤ 9) → K19 k1 g) (hK27 : K27 g) (hQ : ∀ v : Int, ((-1) ≤ v ∧ v ≤ 9) → Q v g) : ∀ (n : Nat) {l1 : Int}, (0 ≤ l1 ∧ l1 ≤ 10) → 10 - l1 < (n : Int) → w_Thought_goodSpout_l2 K19 K27 Q n l1 g
  | 0, l1, b0, hm => by exfalso; omega
  | n + 1, l1, b0, hm => by
    unfold w_Thought_goodSpout_l2
    have m_1 : 0 ≤ (g 2 8) ∧ (g 2 8) ≤ 10 := I.1 2 8
    refine ⟨⟨by omega, by omega⟩, ⟨by omega, by omega⟩, ?_⟩
    refine ⟨fun c8 => ?_, fun c8 => ?_⟩
    · exact hK27
    · refine k_Thought_goodTake I ⟨by omega, by omega⟩ (fun v3 b_2 => ?_)
      refine ⟨⟨by omega, by omega⟩, ?_⟩
      refine ⟨fun c7 => ?_, fun c7 => ?_⟩
      · exact k_Thought_goodSpout_l2 I hK19 hK27 hQ n ⟨by omega, by omega⟩ (by omega)
      · exact hK19 _ ⟨by omega, by omega⟩
set_option maxRecDepth 100000 in
set_option maxHeartbeats 4000000 in
theorem k_Thought_goodSpout {g : zi_M} {Q : Int → zi_M → Prop} (I : zk_I g) (hQ : ∀ v : Int, ((-1) ≤ v ∧ v ≤ 9) → Q v g) : w_Thought_goodSpout g Q := by
  unfold w_Thought_goodSpout
  refine ⟨((10 - 0 : Int).toNat + 1), k_Thought_goodSpout_l2 I (fun k9 b_3 => ?_) (?_) hQ ((10 - 0 : Int).toNat + 1) ⟨by omega, by omega⟩ (by omega)⟩
  · exact hQ _ ⟨by omega, by omega⟩
  · exact hQ _ ⟨by omega, by omega⟩
-- SpoutNews.game(I)I
set_option maxRecDepth 100000 in
set_option maxHeartbeats 4000000 in
theorem k_S_game {l1 : Int} {g : zi_M} {Q : Int → zi_M → Prop} (I : zk_I g) (p1 : (-2147483648) ≤ l1 ∧ l1 ≤ 2147483647) (hQ : ∀ v : Int, ((-1) ≤ v ∧ v ≤ 9) → Q v g) : w_S_game l1 g Q := by
  unfold w_S_game
  refine ⟨⟨by omega, by omega⟩, ?_⟩
  refine ⟨fun c2_0 c2_1 => ?_, fun c2 => ?_, fun c2 => ?_⟩
  · exact hQ _ ⟨by omega, by omega⟩
  · refine k_Thought_goodSpout I (fun v3 b_1 => ?_)
    exact hQ _ ⟨by omega, by omega⟩
  · refine k_Thought_goodSpout I (fun v6 b_2 => ?_)
    refine k_Thought_goodTake I ⟨by omega, by omega⟩ (fun v9 b_3 => ?_)
    exact hQ _ ⟨by omega, by omega⟩
-- SpoutNewsModel.game(I)I
set_option maxRecDepth 100000 in
set_option maxHeartbeats 4000000 in
theorem k_M_game_l21 {K49 : Int → zi_M → Prop} {Q : Int → zi_M → Prop} {g0 : zi_M} (hK49 : ∀ (k2 : Int) (g : zi_M), zk_I g → zk_fr fr_M_game g0 g → (0 ≤ k2 ∧ k2 ≤ 3) → K49 k2 g) (hQ : ∀ (v : Int) (g' : zi_M), zk_I g' → zk_fr fr_M_game g0 g' → ((-1) ≤ v ∧ v ≤ 9) → Q v g') : ∀ (n : Nat) {l2 : Int} {l3 : Int} {g : zi_M}, zk_I g → zk_fr fr_M_game g0 g → (0 ≤ l2 ∧ l2 ≤ 3) → (0 ≤ l3 ∧ l3 ≤ 10) → 10 - l3 < (n : Int) → w_M_game_l21 K49 Q n l2 l3 g
  | 0, l2, l3, g, I, F, b0, b1, hm => by exfalso; omega
  | n + 1, l2, l3, g, I, F, b0, b1, hm => by
    unfold w_M_game_l21
    have m_7 : 0 ≤ (g 214 6) ∧ (g 214 6) ≤ 10 := I.1 214 6
    refine ⟨⟨by omega, by omega⟩, ⟨by omega, by omega⟩, ?_⟩
    refine ⟨fun c9 => ?_, fun c9 => ?_⟩
    · exact hK49 _ _ I F ⟨by omega, by omega⟩
    · refine ⟨⟨by omega, by omega⟩, ?_⟩
      have m_8 := zk_now26 I (i := (26 + l3)) (by omega)
      refine ⟨⟨by omega, by omega⟩, ?_⟩
      have m_9 := zi_tmod_f (g 215 (26 + l3)) 3
      have m_10 := zi_tmod_c (g 215 (26 + l3)) 3 (by decide)
      first | have m_11 := (zi_xor_f l2 (Int.tmod (g 215 (26 + l3)) 3)).2.1 ⟨by omega, by omega, by omega, by omega⟩ | have m_11 := (zi_xor_f l2 (Int.tmod (g 215 (26 + l3)) 3)).2.2.1 ⟨by omega, by omega, by omega, by omega⟩ | have m_11 := (zi_xor_f l2 (Int.tmod (g 215 (26 + l3)) 3)).2.2.2 ⟨by omega, by omega, by omega, by omega⟩ | have m_11 := zi_r_xor l2 (Int.tmod (g 215 (26 + l3)) 3)
      exact k_M_game_l21 hK49 hQ n I F ⟨by omega, by omega⟩ ⟨by omega, by omega⟩ (by omega)
set_option maxRecDepth 100000 in
set_option maxHeartbeats 4000000 in
theorem k_M_game_l73 {l2 : Int} {l4 : Int} {K107 : Int → zi_M → Prop} {K124 : zi_M → Prop} {Q : Int → zi_M → Prop} {g0 : zi_M} (q2 : 0 ≤ l2 ∧ l2 ≤ 3) (q4 : 0 ≤ l4 ∧ l4 ≤ 20) (hK107 : ∀ (k5 : Int) (g : zi_M), zk_I g → zk_fr fr_M_game g0 g → (1 ≤ k5 ∧ k5 ≤ 5) → K107 k5 g) (hK124 : ∀ (g : zi_M), zk_I g → zk_fr fr_M_game g0 g → K124 g) (hQ : ∀ (v : Int) (g' : zi_M), zk_I g' → zk_fr fr_M_game g0 g' → ((-1) ≤ v ∧ v ≤ 9) → Q v g') : ∀ (n : Nat) {l5 : Int} {g : zi_M}, zk_I g → zk_fr fr_M_game g0 g → (1 ≤ l5 ∧ l5 ≤ 5) → 5 - l5 < (n : Int) → w_M_game_l73 l2 l4 K107 K124 Q n l5 g
  | 0, l5, g, I, F, b0, hm => by exfalso; omega
  | n + 1, l5, g, I, F, b0, hm => by
    unfold w_M_game_l73
    refine k_M_lesser I ⟨by omega, by omega⟩ ⟨by omega, by omega⟩ (fun v15 b_16 b_17 => ?_)
    refine ⟨⟨by omega, by omega⟩, ⟨by omega, by omega⟩, ?_⟩
    refine ⟨fun c25 => ?_, fun c25 => ?_⟩
    · exact hK124 _ I F
    · refine ⟨fun c24 => ?_, fun c24 => ?_⟩
      · exact k_M_game_l73 q2 q4 hK107 hK124 hQ n I F ⟨by omega, by omega⟩ (by omega)
      · refine ⟨⟨by omega, by omega⟩, ?_⟩
        refine ⟨⟨by omega, by omega⟩, ?_⟩
        have m_18 := zi_tmod_f (l4 - l5) 3
        have m_19 := zi_tmod_c (l4 - l5) 3 (by decide)
        refine ⟨⟨by omega, by omega⟩, ?_⟩
        have m_20 := zi_tmod_f l4 3
        have m_21 := zi_tmod_c l4 3 (by decide)
        first | have m_22 := (zi_xor_f l2 (Int.tmod l4 3)).2.1 ⟨by omega, by omega, by omega, by omega⟩ | have m_22 := (zi_xor_f l2 (Int.tmod l4 3)).2.2.1 ⟨by omega, by omega, by omega, by omega⟩ | have m_22 := (zi_xor_f l2 (Int.tmod l4 3)).2.2.2 ⟨by omega, by omega, by omega, by omega⟩ | have m_22 := zi_r_xor l2 (Int.tmod l4 3)
        refine ⟨fun c23 => ?_, fun c23 => ?_⟩
        · exact k_M_game_l73 q2 q4 hK107 hK124 hQ n I F ⟨by omega, by omega⟩ (by omega)
        · exact hK107 _ _ I F ⟨by omega, by omega⟩
set_option maxRecDepth 100000 in
set_option maxHeartbeats 4000000 in
theorem k_M_game_l51 {l2 : Int} {K107 : Int → Int → zi_M → Prop} {K130 : zi_M → Prop} {Q : Int → zi_M → Prop} {g0 : zi_M} (q2 : 0 ≤ l2 ∧ l2 ≤ 3) (hK107 : ∀ (k3 : Int) (k5 : Int) (g : zi_M), zk_I g → zk_fr fr_M_game g0 g → (0 ≤ k3 ∧ k3 ≤ 9) → (1 ≤ k5 ∧ k5 ≤ 5) → K107 k3 k5 g) (hK130 : ∀ (g : zi_M), zk_I g → zk_fr fr_M_game g0 g → K130 g) (hQ : ∀ (v : Int) (g' : zi_M), zk_I g' → zk_fr fr_M_game g0 g' → ((-1) ≤ v ∧ v ≤ 9) → Q v g') : ∀ (n : Nat) {l3 : Int} {g : zi_M}, zk_I g → zk_fr fr_M_game g0 g → (0 ≤ l3 ∧ l3 ≤ 10) → 10 - l3 < (n : Int) → w_M_game_l51 l2 K107 K130 Q n l3 g
  | 0, l3, g, I, F, b0, hm => by exfalso; omega
  | n + 1, l3, g, I, F, b0, hm => by
    unfold w_M_game_l51
    have m_15 : 0 ≤ (g 214 6) ∧ (g 214 6) ≤ 10 := I.1 214 6
    refine ⟨⟨by omega, by omega⟩, ⟨by omega, by omega⟩, ?_⟩
    refine ⟨fun c30 => ?_, fun c30 => ?_⟩
    · exact hK130 _ I F
    · refine ⟨⟨by omega, by omega⟩, ?_⟩
      have m_28 := zk_now26 I (i := (26 + l3)) (by omega)
      refine ⟨((5 - 1 : Int).toNat + 1), k_M_game_l73 (l2 := l2) (l4 := (g 215 (26 + l3))) ⟨by omega, by omega⟩ ⟨by omega, by omega⟩ (fun k26 g27 I_23 F_24 b_25 => ?_) (fun g28 I_26 F_27 => ?_) hQ ((5 - 1 : Int).toNat + 1) I F ⟨by omega, by omega⟩ (by omega)⟩
      · exact hK107 _ _ _ I_23 F_24 ⟨by omega, by omega⟩ ⟨by omega, by omega⟩
      · exact k_M_game_l51 q2 hK107 hK130 hQ n I_26 F_27 ⟨by omega, by omega⟩ (by omega)
set_option maxRecDepth 100000 in
set_option maxHeartbeats 4000000 in
theorem k_M_game {l1 : Int} {g : zi_M} {Q : Int → zi_M → Prop} (I : zk_I g) (p1 : (-2147483648) ≤ l1 ∧ l1 ≤ 2147483647) (hQ : ∀ (v : Int) (g' : zi_M), zk_I g' → zk_fr fr_M_game g g' → ((-1) ≤ v ∧ v ≤ 9) → Q v g') : w_M_game l1 g Q := by
  unfold w_M_game
  intro g1 e_1
  have I_2 : zk_I g1 := by rw [e_1]; exact zk_upd (L := (-2147483648)) (H := 2147483647) rfl rfl I ⟨by omega, by omega⟩
  have F_3 : zk_fr fr_M_game g g1 := by rw [e_1]; exact zk_fu (zk_f0 _) ⟨rfl, rfl⟩
  refine k_M_isIn I_2 ⟨by omega, by omega⟩ ⟨by omega, by omega⟩ ⟨by omega, by omega⟩ (fun v2 b_4 b_5 b_6 => ?_)
  refine ⟨fun c39 => ?_, fun c39 => ?_⟩
  · refine ⟨((10 - 0 : Int).toNat + 1), k_M_game_l21 (fun k10 g11 I_12 F_13 b_14 => ?_) hQ ((10 - 0 : Int).toNat + 1) I_2 F_3 ⟨by omega, by omega⟩ ⟨by omega, by omega⟩ (by omega)⟩
    refine ⟨((10 - 0 : Int).toNat + 1), k_M_game_l51 (l2 := k10) ⟨by omega, by omega⟩ (fun k31 k32 g33 I_29 F_30 b_31 b_32 => ?_) (fun g36 I_33 F_34 => ?_) hQ ((10 - 0 : Int).toNat + 1) I_12 F_13 ⟨by omega, by omega⟩ (by omega)⟩
    · refine ⟨⟨by omega, by omega⟩, ?_⟩
      refine ⟨fun c35 => ?_, fun c35 => ?_⟩
      · exact hQ _ _ I_29 F_30 ⟨by omega, by omega⟩
      · exact hQ _ _ I_29 F_30 ⟨by omega, by omega⟩
    · exact hQ _ _ I_33 F_34 ⟨by omega, by omega⟩
  · exact hQ _ _ I_2 F_3 ⟨by omega, by omega⟩
-- SpoutNews$Past.goBack(LSpoutNews$World;)Z
theorem zP_back {g g3 g4 g7 : zi_M} (I : zk_I g) (c1 : 1 ≤ g 91 1) (e1 : g3 = zi_u g 91 2 (Int.tmod (((g 91 2) + 6) - 1) 6)) (e2 : g4 = zi_u g3 91 1 ((g3 91 1) - 1)) (F : zk_fr (fr_World_copyFrom 2 (93 + 12 * (g4 91 2).toNat)) g4 g7) (W : zWc 2 (93 + 12 * (g4 91 2).toNat) g4 g7) (h : zP g) : zP g7 ∧ zQk g g7 := by
  have b : (0 : Int) ≤ g 91 2 ∧ g 91 2 ≤ 5 := I.1 91 2
  have c : (0 : Int) ≤ g 91 1 ∧ g 91 1 ≤ 6 := I.1 91 1
  have u : ∀ (a : Nat) (i : Int), a ≠ 91 → g4 a i = g a i := fun a i q => by rw [e2, zi_u_ne q, e1, zi_u_ne q]
  have n2 : g4 91 2 = (g 91 2 + 5) % 6 := by
    rw [e2, zi_u_ni (by decide), e1, zi_u_eq, Int.tmod_eq_emod_of_nonneg (by omega)]
    congr 1
    omega
  have n1 : g4 91 1 = g 91 1 - 1 := by
    rw [e2, zi_u_eq, e1, zi_u_ni (by decide)]
  have f : ∀ (a : Nat) (i : Int), 14 ≤ a → g7 a i = g4 a i := fun a i q => F a i (fun w => by unfold fr_World_copyFrom at w; omega)
  have live := h (g4 91 2) (by omega) (by omega) (by omega)
  obtain ⟨⟨a1, a2⟩, b1, b2, b3⟩ := live
  obtain ⟨⟨w1, w2, -⟩, y1, y2, y3, -⟩ := W
  have k8 : g7 2 8 = g 2 8 := by rw [w1, u _ _ (by omega), a1]
  have k11 : g7 2 11 = g 2 11 := by rw [w2, u _ _ (by omega), a2]
  have k3 : ∀ i : Int, 0 ≤ i → i < 10 → g7 3 i = g 3 i := fun i i0 i1 => by
    have := y1 i i0 i1
    rw [u _ _ (by omega), b1 i i0 i1] at this
    exact this
  have k4 : ∀ i : Int, 0 ≤ i → i < 10 → g7 4 i = g 4 i := fun i i0 i1 => by
    have := y2 i i0 i1
    rw [u _ _ (by omega), b2 i i0 i1] at this
    exact this
  have k5 : ∀ i : Int, 0 ≤ i → i < 10 → g7 5 i = g 5 i := fun i i0 i1 => by
    have := y3 i i0 i1
    rw [u _ _ (by omega), b3 i i0 i1] at this
    exact this
  refine ⟨?_, ⟨k8, k11⟩, k3, k4, k5⟩
  intro i i0 i6 hl
  rw [f 91 2 (by decide), f 91 1 (by decide), n1, n2] at hl
  have old := h i i0 i6 (by omega)
  obtain ⟨⟨a1, a2⟩, b1, b2, b3⟩ := old
  refine ⟨⟨?_, ?_⟩, fun k k0 k1 => ?_, fun k k0 k1 => ?_, fun k k0 k1 => ?_⟩
  · rw [f _ _ (by omega), u _ _ (by omega), a1, k8]
  · rw [f _ _ (by omega), u _ _ (by omega), a2, k11]
  · rw [f _ _ (by omega), u _ _ (by omega), b1 k k0 k1, k3 k k0 k1]
  · rw [f _ _ (by omega), u _ _ (by omega), b2 k k0 k1, k4 k k0 k1]
  · rw [f _ _ (by omega), u _ _ (by omega), b3 k k0 k1, k5 k k0 k1]

set_option maxRecDepth 100000 in
set_option maxHeartbeats 4000000 in
theorem k_Past_goBack {g : zi_M} {Q : Int → zi_M → Prop} (I : zk_I g) (hQ : ∀ (v : Int) (g' : zi_M), zk_I g' → zk_fr fr_Past_goBack g g' → (0 ≤ v ∧ v ≤ 1) → (zP g → zP g' ∧ zQk g g') → (zUk v g g') → Q v g') : w_Past_goBack g Q := by
  unfold w_Past_goBack
  have m_1 : 0 ≤ (g 91 1) ∧ (g 91 1) ≤ 6 := I.1 91 1
  refine ⟨⟨by omega, by omega⟩, ?_⟩
  refine ⟨fun c9 => ?_, fun c9 => ?_⟩
  · have m_2 : 0 ≤ (g 91 2) ∧ (g 91 2) ≤ 5 := I.1 91 2
    refine ⟨⟨by omega, by omega⟩, ?_⟩
    have m_6 := zi_tmod_f (((g 91 2) + 6) - 1) 6
    have m_7 := zi_tmod_c (((g 91 2) + 6) - 1) 6 (by decide)
    intro g3 e_3
    have I_4 : zk_I g3 := by rw [e_3]; exact zk_upd (L := 0) (H := 5) rfl rfl I ⟨by omega, by omega⟩
    have F_5 : zk_fr fr_Past_goBack g g3 := by rw [e_3]; exact zk_fu (zk_f0 _) (Or.inr (Or.inr (Or.inr (Or.inr (Or.inr (Or.inr (Or.inr (Or.inr (Or.inr (Or.inr (Or.inr (Or.inr (Or.inr (Or.inr (Or.inr (Or.inr (Or.inr (Or.inr (Or.inr (Or.inr ⟨rfl, rfl⟩))))))))))))))))))))
    have m_11 : 0 ≤ (g3 91 1) ∧ (g3 91 1) ≤ 6 := I_4.1 91 1
    have m_12 : g3 91 1 = g 91 1 := by rw [e_3]; exact zi_u_ni (by decide)
    intro g4 e_8
    have I_9 : zk_I g4 := by rw [e_8]; exact zk_upd (L := 0) (H := 6) rfl rfl I_4 ⟨by omega, by omega⟩
    have F_10 : zk_fr fr_Past_goBack g g4 := by rw [e_8]; exact zk_fu F_5 (Or.inr (Or.inr (Or.inr (Or.inr (Or.inr (Or.inr (Or.inr (Or.inr (Or.inr (Or.inr (Or.inr (Or.inr (Or.inr (Or.inr (Or.inr (Or.inr (Or.inr (Or.inr (Or.inr (Or.inl ⟨rfl, rfl⟩))))))))))))))))))))
    have m_13 : 0 ≤ (g4 91 2) ∧ (g4 91 2) ≤ 5 := I_9.1 91 2
    have m_14 : g4 91 2 = g3 91 2 := by rw [e_8]; exact zi_u_ni (by decide)
    have m_15 : 0 ≤ (g3 91 2) ∧ (g3 91 2) ≤ 5 := I_4.1 91 2
    have m_16 : g3 91 2 = Int.tmod (((g 91 2) + 6) - 1) 6 := by rw [e_3]; exact zi_u_eq
    refine ⟨⟨by omega, by omega⟩, ?_⟩
    refine k_World_copyFrom rfl (zs_ring ⟨by omega, by omega⟩).2 I_9 (fun g7 I_18 F_19 b_17 => ?_)
    have F_20 : zk_fr fr_Past_goBack g g7 := zk_ft F_10 F_19 (fun a i => (fun h => Or.elim h (fun h => (Or.inr (Or.inr (Or.inr (Or.inr (Or.inl h)))))) (fun h => Or.elim h (fun h => (Or.inr (Or.inr (Or.inl h)))) (fun h => Or.elim h (fun h => (Or.inr (Or.inr (Or.inr (Or.inl h))))) (fun h => Or.elim h (fun h => (Or.inr (Or.inr (Or.inr (Or.inr (Or.inr (Or.inl h))))))) (fun h => Or.elim h (fun h => (Or.inr (Or.inr (Or.inr (Or.inr (Or.inr (Or.inr (Or.inl h)))))))) (fun h => Or.elim h (fun h => (Or.inr (Or.inr (Or.inr (Or.inr (Or.inr (Or.inr (Or.inr (Or.inl h))))))))) (fun h => Or.elim h (fun h => (Or.inr (Or.inr (Or.inr (Or.inr (Or.inr (Or.inr (Or.inr (Or.inr (Or.inl h)))))))))) (fun h => Or.elim h (fun h => (Or.inr (Or.inr (Or.inr (Or.inr (Or.inr (Or.inr (Or.inr (Or.inr (Or.inr (Or.inl h))))))))))) (fun h => Or.elim h (fun h => (Or.inr (Or.inr (Or.inr (Or.inr (Or.inr (Or.inr (Or.inr (Or.inr (Or.inr (Or.inr (Or.inl h)))))))))))) (fun h => Or.elim h (fun h => (Or.inl h)) (fun h => Or.elim h (fun h => (Or.inr (Or.inl h))) (fun h => Or.elim h (fun h => (Or.inr (Or.inr (Or.inr (Or.inr (Or.inr (Or.inr (Or.inr (Or.inr (Or.inr (Or.inr (Or.inr (Or.inl h))))))))))))) (fun h => Or.elim h (fun h => (Or.inr (Or.inr (Or.inr (Or.inr (Or.inr (Or.inr (Or.inr (Or.inr (Or.inr (Or.inr (Or.inr (Or.inr (Or.inl h)))))))))))))) (fun h => Or.elim h (fun h => (Or.inr (Or.inr (Or.inr (Or.inr (Or.inr (Or.inr (Or.inr (Or.inr (Or.inr (Or.inr (Or.inr (Or.inr (Or.inr (Or.inl h))))))))))))))) (fun h => Or.elim h (fun h => (Or.inr (Or.inr (Or.inr (Or.inr (Or.inr (Or.inr (Or.inr (Or.inr (Or.inr (Or.inr (Or.inr (Or.inr (Or.inr (Or.inr (Or.inl h)))))))))))))))) (fun h => Or.elim h (fun h => (Or.inr (Or.inr (Or.inr (Or.inr (Or.inr (Or.inr (Or.inr (Or.inr (Or.inr (Or.inr (Or.inr (Or.inr (Or.inr (Or.inr (Or.inr (Or.inl h))))))))))))))))) (fun h => Or.elim h (fun h => (Or.inr (Or.inr (Or.inr (Or.inr (Or.inr (Or.inr (Or.inr (Or.inr (Or.inr (Or.inr (Or.inr (Or.inr (Or.inr (Or.inr (Or.inr (Or.inr (Or.inl h)))))))))))))))))) (fun h => Or.elim h (fun h => (Or.inr (Or.inr (Or.inr (Or.inr (Or.inr (Or.inr (Or.inr (Or.inr (Or.inr (Or.inr (Or.inr (Or.inr (Or.inr (Or.inr (Or.inr (Or.inr (Or.inr (Or.inl h))))))))))))))))))) (fun h => (Or.inr (Or.inr (Or.inr (Or.inr (Or.inr (Or.inr (Or.inr (Or.inr (Or.inr (Or.inr (Or.inr (Or.inr (Or.inr (Or.inr (Or.inr (Or.inr (Or.inr (Or.inr (Or.inl h)))))))))))))))))))))))))))))))))))))))
    exact hQ _ _ I_18 F_20 ⟨by omega, by omega⟩ (by intro hz; first | exact ⟨hz, zQk_refl _⟩ | exact zP_back I (by assumption) (by assumption) (by assumption) (by assumption) (by assumption) hz) (by first | exact zUk_n (by assumption) | exact zUk_y I (by assumption) (by assumption) (by assumption) (by assumption) (by assumption))
  · exact hQ _ _ I (zk_f0 _) ⟨by omega, by omega⟩ (by intro hz; first | exact ⟨hz, zQk_refl _⟩ | exact zP_back I (by assumption) (by assumption) (by assumption) (by assumption) (by assumption) hz) (by first | exact zUk_n (by assumption) | exact zUk_y I (by assumption) (by assumption) (by assumption) (by assumption) (by assumption))
