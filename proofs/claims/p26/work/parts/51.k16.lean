-- by program (wip/gen/mkz.py)
-- SpoutNews.leans(I)I
set_option maxRecDepth 100000 in
set_option maxHeartbeats 4000000 in
theorem k_S_leans {l1 : Int} {g : zi_M} {Q : Int → zi_M → Prop} (I : zk_I g) (p1 : (-2147483648) ≤ l1 ∧ l1 ≤ 2147483647) (hQ : ∀ v : Int, ((-1) ≤ v ∧ v ≤ 99) → (1 ≤ l1 ∧ l1 ≤ 99 → v = zmx (g 5) l1 (g 2 8).toNat) → (¬ (1 ≤ l1 ∧ l1 ≤ 99) → v = -1) → Q v g) : w_S_leans l1 g Q := by
  unfold w_S_leans
  refine ⟨⟨by omega, by omega⟩, ?_⟩
  refine ⟨fun c6 => ?_, fun c6 => ?_⟩
  · exact hQ _ ⟨by omega, by omega⟩ (by intro hv; first | assumption | (exfalso; omega)) (by omega)
  · refine ⟨fun c5 => ?_, fun c5 => ?_⟩
    · have m_1 : 0 ≤ (g 2 8) ∧ (g 2 8) ≤ 10 := I.1 2 8
      refine k_Thought_centuries I ⟨by omega, by omega⟩ (fun v2 b_2 b_3 => ?_)
      exact hQ _ ⟨by omega, by omega⟩ (by intro hv; first | assumption | (exfalso; omega)) (by omega)
    · exact hQ _ ⟨by omega, by omega⟩ (by intro hv; first | assumption | (exfalso; omega)) (by omega)
-- SpoutNewsModel.leansFrom(II)I
set_option maxRecDepth 100000 in
set_option maxHeartbeats 4000000 in
theorem k_M_leansFrom_l5 {l1 : Int} {g : zi_M} (I : zk_I g) {l2 : Int} {x1 : Int} {K30 : Int → zi_M → Prop} {Q : Int → zi_M → Prop} (q2 : 1 ≤ l2 ∧ l2 ≤ 99) (hK30 : ∀ (k3 : Int), (0 ≤ k3 ∧ k3 ≤ 120) → (k3 = zlv x1 l2) → K30 k3 g) (hQ : ∀ v : Int, (0 ≤ v ∧ v ≤ 120) → (v = zlv l1 l2) → Q v g) : ∀ (n : Nat) {l3 : Int} {l4 : Int}, (0 ≤ l3 ∧ l3 ≤ 120) → (0 ≤ l4 ∧ l4 ≤ 108) → (l3 ≤ l4) → (l3 + zlv l4 l2 = zlv x1 l2) → max (l2 - l4) 0 < (n : Int) → w_M_leansFrom_l5 l2 K30 Q n l3 l4 g
  | 0, l3, l4, b0, b1, b2, b3, hm => by exfalso; omega
  | n + 1, l3, l4, b0, b1, b2, b3, hm => by
    unfold w_M_leansFrom_l5
    refine ⟨⟨by omega, by omega⟩, ⟨by omega, by omega⟩, ?_⟩
    refine ⟨fun c3 => ?_, fun c3 => ?_⟩
    · exact hK30 _ ⟨by omega, by omega⟩ (by exact zlv_x (by assumption) (by omega))
    · have m_1 := zi_tdiv_f l4 10
      have m_2 := zi_tdiv_c l4 10 (by decide)
      exact k_M_leansFrom_l5 I q2 hK30 hQ n ⟨by omega, by omega⟩ ⟨by omega, by omega⟩ (by omega) (by first | exact zlv_0 | exact zlv_st (by assumption) (by omega) (by omega) ⟨by omega, by omega⟩) (by omega)
set_option maxRecDepth 100000 in
set_option maxHeartbeats 4000000 in
theorem k_M_leansFrom {l1 : Int} {l2 : Int} {g : zi_M} {Q : Int → zi_M → Prop} (I : zk_I g) (p1 : 0 ≤ l1 ∧ l1 ≤ 99) (p2 : 1 ≤ l2 ∧ l2 ≤ 99) (hQ : ∀ v : Int, (0 ≤ v ∧ v ≤ 120) → (v = zlv l1 l2) → Q v g) : w_M_leansFrom l1 l2 g Q := by
  unfold w_M_leansFrom
  refine ⟨((max (l2 - l1) 0 : Int).toNat + 1), k_M_leansFrom_l5 (l2 := l2) (x1 := l1) I ⟨by omega, by omega⟩ (fun k4 b_3 b_4 => ?_) hQ ((max (l2 - l1) 0 : Int).toNat + 1) ⟨by omega, by omega⟩ ⟨by omega, by omega⟩ (by omega) (by first | exact zlv_0 | exact zlv_st (by assumption) (by omega) (by omega) ⟨by omega, by omega⟩) (by omega)⟩
  exact hQ _ ⟨by omega, by omega⟩ (by assumption)
-- SpoutNewsModel.leans(I)I
noncomputable def fr_M_leans (a : Nat) (i : Int) : Prop := (a = 214 ∧ i = 0)
set_option maxRecDepth 100000 in
set_option maxHeartbeats 4000000 in
theorem k_M_leans_l22 {l1 : Int} {K53 : Int → zi_M → Prop} {Q : Int → zi_M → Prop} {g0 : zi_M} (q1 : 1 ≤ l1 ∧ l1 ≤ 99) (hK53 : ∀ (k2 : Int) (g : zi_M), zk_I g → zk_fr fr_M_leans g0 g → (0 ≤ k2 ∧ k2 ≤ 120) → (k2 = zmx (g0 220) l1 (g0 214 6).toNat) → K53 k2 g) (hQ : ∀ (v : Int) (g' : zi_M), zk_I g' → zk_fr fr_M_leans g0 g' → ((-1) ≤ v ∧ v ≤ 120) → (1 ≤ l1 ∧ l1 ≤ 99 → v = zmx (g0 220) l1 (g0 214 6).toNat) → (¬ (1 ≤ l1 ∧ l1 ≤ 99) → v = -1) → Q v g') : ∀ (n : Nat) {l2 : Int} {l3 : Int} {g : zi_M}, zk_I g → zk_fr fr_M_leans g0 g → (0 ≤ l2 ∧ l2 ≤ 120) → (0 ≤ l3 ∧ l3 ≤ 10) → (l3 ≤ g 214 6) → (l2 = zmx (g0 220) l1 l3.toNat) → 10 - l3 < (n : Int) → w_M_leans_l22 l1 K53 Q n l2 l3 g
  | 0, l2, l3, g, I, F, b0, b1, b2, b3, hm => by exfalso; omega
  | n + 1, l2, l3, g, I, F, b0, b1, b2, b3, hm => by
    unfold w_M_leans_l22
    have m_7 : 0 ≤ (g 214 6) ∧ (g 214 6) ≤ 10 := I.1 214 6
    refine ⟨⟨by omega, by omega⟩, ⟨by omega, by omega⟩, ?_⟩
    refine ⟨fun c14 => ?_, fun c14 => ?_⟩
    · exact hK53 _ _ I F ⟨by omega, by omega⟩ (by have hf := F 214 6 (by unfold fr_M_leans; omega); rw [show g0 214 6 = l3 by omega]; assumption)
    · refine ⟨⟨by omega, by omega⟩, ?_⟩
      have m_8 : 0 ≤ (g 220 l3) ∧ (g 220 l3) ≤ 99 := I.1 220 l3
      refine k_M_leansFrom I ⟨by omega, by omega⟩ ⟨by omega, by omega⟩ (fun v8 b_9 b_10 => ?_)
      refine k_M_greater I ⟨by omega, by omega⟩ ⟨by omega, by omega⟩ (fun v11 b_11 b_12 => ?_)
      exact k_M_leans_l22 q1 hK53 hQ n I F ⟨by omega, by omega⟩ ⟨by omega, by omega⟩ (by omega) (by first | rfl | exact zmx_w (by assumption) (by assumption) (by omega) (by omega) (by omega)) (by omega)
set_option maxRecDepth 100000 in
set_option maxHeartbeats 4000000 in
theorem k_M_leans {l1 : Int} {g : zi_M} {Q : Int → zi_M → Prop} (I : zk_I g) (p1 : (-2147483648) ≤ l1 ∧ l1 ≤ 2147483647) (hQ : ∀ (v : Int) (g' : zi_M), zk_I g' → zk_fr fr_M_leans g g' → ((-1) ≤ v ∧ v ≤ 120) → (1 ≤ l1 ∧ l1 ≤ 99 → v = zmx (g 220) l1 (g 214 6).toNat) → (¬ (1 ≤ l1 ∧ l1 ≤ 99) → v = -1) → Q v g') : w_M_leans l1 g Q := by
  unfold w_M_leans
  intro g1 e_1
  have I_2 : zk_I g1 := by rw [e_1]; exact zk_upd (L := (-2147483648)) (H := 2147483647) rfl rfl I ⟨by omega, by omega⟩
  have F_3 : zk_fr fr_M_leans g g1 := by rw [e_1]; exact zk_fu (zk_f0 _) ⟨rfl, rfl⟩
  refine k_M_isIn I_2 ⟨by omega, by omega⟩ ⟨by omega, by omega⟩ ⟨by omega, by omega⟩ (fun v2 b_4 b_5 b_6 => ?_)
  refine ⟨fun c18 => ?_, fun c18 => ?_⟩
  · have m_17 : 0 ≤ (g1 214 6) ∧ (g1 214 6) ≤ 10 := I_2.1 214 6
    have m_18 : g1 214 6 = g 214 6 := by rw [e_1]; exact zi_u_ni (by decide)
    have m_19 : 0 ≤ (g 214 6) ∧ (g 214 6) ≤ 10 := I.1 214 6
    refine ⟨((10 - 0 : Int).toNat + 1), k_M_leans_l22 (l1 := l1) ⟨by omega, by omega⟩ (fun k15 g16 I_13 F_14 b_15 b_16 => ?_) hQ ((10 - 0 : Int).toNat + 1) I_2 F_3 ⟨by omega, by omega⟩ ⟨by omega, by omega⟩ (by omega) (by first | rfl | exact zmx_w (by assumption) (by assumption) (by omega) (by omega) (by omega)) (by omega)⟩
    exact hQ _ _ I_13 F_14 ⟨by omega, by omega⟩ (by intro hv; first | assumption | (exfalso; omega)) (by omega)
  · exact hQ _ _ I_2 F_3 ⟨by omega, by omega⟩ (by intro hv; first | assumption | (exfalso; omega)) (by omega)
-- SpoutNews.chapter(I)I
noncomputable def fr_S_chapter (a : Nat) (i : Int) : Prop := a = 45 ∨ (a = 36 ∧ i = 12)
set_option maxRecDepth 100000 in
set_option maxHeartbeats 4000000 in
theorem k_S_chapter {l1 : Int} {g : zi_M} {Q : Int → zi_M → Prop} (I : zk_I g) (p1 : (-2147483648) ≤ l1 ∧ l1 ≤ 2147483647) (hQ : ∀ (v : Int) (g' : zi_M), zk_I g' → zk_fr fr_S_chapter g g' → ((-1) ≤ v ∧ v ≤ 12) → (l1 = -1 → v = 0 ∧ g' 36 12 = 0) → (¬ l1 = -1 → 1 ≤ l1 ∧ l1 ≤ 60 ∧ g 36 12 < 12 → v = g 36 12 + 1 ∧ g' 36 12 = g 36 12 + 1) → (¬ l1 = -1 → ¬ (1 ≤ l1 ∧ l1 ≤ 60 ∧ g 36 12 < 12) → v = -1 ∧ g' 36 12 = g 36 12) → Q v g') : w_S_chapter l1 g Q := by
  unfold w_S_chapter
  refine ⟨⟨by omega, by omega⟩, ?_⟩
  refine ⟨fun c10 => ?_, fun c10 => ?_⟩
  · refine ⟨fun c8 => ?_, fun c8 => ?_⟩
    · have m_1 : 0 ≤ (g 36 12) ∧ (g 36 12) ≤ 12 := I.1 36 12
      exact hQ _ _ I (zk_f0 _) ⟨by omega, by omega⟩ (by omega) (by omega) (by omega)
    · refine ⟨fun c7 => ?_, fun c7 => ?_⟩
      · have m_2 : 0 ≤ (g 36 12) ∧ (g 36 12) ≤ 12 := I.1 36 12
        exact hQ _ _ I (zk_f0 _) ⟨by omega, by omega⟩ (by omega) (by omega) (by omega)
      · have m_3 : 0 ≤ (g 36 12) ∧ (g 36 12) ≤ 12 := I.1 36 12
        refine ⟨⟨by omega, by omega⟩, ?_⟩
        refine ⟨fun c6 => ?_, fun c6 => ?_⟩
        · refine ⟨⟨by omega, by omega⟩, ?_⟩
          intro g4 e_4
          have I_5 : zk_I g4 := by rw [e_4]; exact zk_upd (L := 0) (H := 60) rfl rfl I ⟨by omega, by omega⟩
          have F_6 : zk_fr fr_S_chapter g g4 := by rw [e_4]; exact zk_fu (zk_f0 _) (Or.inl rfl)
          have m_10 : 0 ≤ (g4 36 12) ∧ (g4 36 12) ≤ 12 := I_5.1 36 12
          have m_11 : g4 36 12 = g 36 12 := by rw [e_4]; exact zi_u_ne (by decide)
          intro g5 e_7
          have I_8 : zk_I g5 := by rw [e_7]; exact zk_upd (L := 0) (H := 12) rfl rfl I_5 ⟨by omega, by omega⟩
          have F_9 : zk_fr fr_S_chapter g g5 := by rw [e_7]; exact zk_fu F_6 (Or.inr ⟨rfl, rfl⟩)
          have m_12 : 0 ≤ (g5 36 12) ∧ (g5 36 12) ≤ 12 := I_8.1 36 12
          have m_13 : g5 36 12 = (g4 36 12) + 1 := by rw [e_7]; exact zi_u_eq
          exact hQ _ _ I_8 F_9 ⟨by omega, by omega⟩ (by omega) (by omega) (by omega)
        · exact hQ _ _ I (zk_f0 _) ⟨by omega, by omega⟩ (by omega) (by omega) (by omega)
  · intro g9 e_14
    have I_15 : zk_I g9 := by rw [e_14]; exact zk_upd (L := 0) (H := 12) rfl rfl I ⟨by omega, by omega⟩
    have F_16 : zk_fr fr_S_chapter g g9 := by rw [e_14]; exact zk_fu (zk_f0 _) (Or.inr ⟨rfl, rfl⟩)
    have m_17 : 0 ≤ (g9 36 12) ∧ (g9 36 12) ≤ 12 := I_15.1 36 12
    have m_18 : g9 36 12 = 0 := by rw [e_14]; exact zi_u_eq
    exact hQ _ _ I_15 F_16 ⟨by omega, by omega⟩ (by omega) (by omega) (by omega)
-- SpoutNewsModel.chapter(I)I
noncomputable def fr_M_chapter (a : Nat) (i : Int) : Prop := a = 248 ∨ (a = 214 ∧ i = 0) ∨ (a = 214 ∧ i = 58)
set_option maxRecDepth 100000 in
set_option maxHeartbeats 4000000 in
theorem k_M_chapter {l1 : Int} {g : zi_M} {Q : Int → zi_M → Prop} (I : zk_I g) (p1 : (-2147483648) ≤ l1 ∧ l1 ≤ 2147483647) (hQ : ∀ (v : Int) (g' : zi_M), zk_I g' → zk_fr fr_M_chapter g g' → ((-1) ≤ v ∧ v ≤ 12) → (l1 = -1 → v = 0 ∧ g' 214 58 = 0) → (¬ l1 = -1 → 1 ≤ l1 ∧ l1 ≤ 60 ∧ g 214 58 < 12 → v = g 214 58 + 1 ∧ g' 214 58 = g 214 58 + 1) → (¬ l1 = -1 → ¬ (1 ≤ l1 ∧ l1 ≤ 60 ∧ g 214 58 < 12) → v = -1 ∧ g' 214 58 = g 214 58) → Q v g') : w_M_chapter l1 g Q := by
  unfold w_M_chapter
  intro g1 e_1
  have I_2 : zk_I g1 := by rw [e_1]; exact zk_upd (L := (-2147483648)) (H := 2147483647) rfl rfl I ⟨by omega, by omega⟩
  have F_3 : zk_fr fr_M_chapter g g1 := by rw [e_1]; exact zk_fu (zk_f0 _) (Or.inr (Or.inl ⟨rfl, rfl⟩))
  refine ⟨⟨by omega, by omega⟩, ?_⟩
  refine ⟨fun c13 => ?_, fun c13 => ?_⟩
  · refine k_M_isIn I_2 ⟨by omega, by omega⟩ ⟨by omega, by omega⟩ ⟨by omega, by omega⟩ (fun v3 b_4 b_5 b_6 => ?_)
    refine ⟨fun c11 => ?_, fun c11 => ?_⟩
    · have m_7 : 0 ≤ (g1 214 58) ∧ (g1 214 58) ≤ 12 := I_2.1 214 58
      have m_8 : g1 214 58 = g 214 58 := by rw [e_1]; exact zi_u_ni (by decide)
      have m_9 : 0 ≤ (g 214 58) ∧ (g 214 58) ≤ 12 := I.1 214 58
      exact hQ _ _ I_2 F_3 ⟨by omega, by omega⟩ (by omega) (by omega) (by omega)
    · have m_10 : 0 ≤ (g1 214 58) ∧ (g1 214 58) ≤ 12 := I_2.1 214 58
      have m_11 : g1 214 58 = g 214 58 := by rw [e_1]; exact zi_u_ni (by decide)
      have m_12 : 0 ≤ (g 214 58) ∧ (g 214 58) ≤ 12 := I.1 214 58
      refine ⟨⟨by omega, by omega⟩, ?_⟩
      refine ⟨fun c10 => ?_, fun c10 => ?_⟩
      · refine ⟨⟨by omega, by omega⟩, ?_⟩
        intro g8 e_13
        have I_14 : zk_I g8 := by rw [e_13]; exact zk_upd (L := 0) (H := 60) rfl rfl I_2 ⟨by omega, by omega⟩
        have F_15 : zk_fr fr_M_chapter g g8 := by rw [e_13]; exact zk_fu F_3 (Or.inl rfl)
        have m_19 : 0 ≤ (g8 214 58) ∧ (g8 214 58) ≤ 12 := I_14.1 214 58
        have m_20 : g8 214 58 = g1 214 58 := by rw [e_13]; exact zi_u_ne (by decide)
        intro g9 e_16
        have I_17 : zk_I g9 := by rw [e_16]; exact zk_upd (L := 0) (H := 12) rfl rfl I_14 ⟨by omega, by omega⟩
        have F_18 : zk_fr fr_M_chapter g g9 := by rw [e_16]; exact zk_fu F_15 (Or.inr (Or.inr ⟨rfl, rfl⟩))
        have m_21 : 0 ≤ (g9 214 58) ∧ (g9 214 58) ≤ 12 := I_17.1 214 58
        have m_22 : g9 214 58 = (g8 214 58) + 1 := by rw [e_16]; exact zi_u_eq
        exact hQ _ _ I_17 F_18 ⟨by omega, by omega⟩ (by omega) (by omega) (by omega)
      · exact hQ _ _ I_2 F_3 ⟨by omega, by omega⟩ (by omega) (by omega) (by omega)
  · intro g12 e_23
    have I_24 : zk_I g12 := by rw [e_23]; exact zk_upd (L := 0) (H := 12) rfl rfl I_2 ⟨by omega, by omega⟩
    have F_25 : zk_fr fr_M_chapter g g12 := by rw [e_23]; exact zk_fu F_3 (Or.inr (Or.inr ⟨rfl, rfl⟩))
    have m_26 : 0 ≤ (g12 214 58) ∧ (g12 214 58) ≤ 12 := I_24.1 214 58
    have m_27 : g12 214 58 = 0 := by rw [e_23]; exact zi_u_eq
    exact hQ _ _ I_24 F_25 ⟨by omega, by omega⟩ (by omega) (by omega) (by omega)
-- SpoutNews$Thought.storm(II)I
set_option maxRecDepth 100000 in
set_option maxHeartbeats 4000000 in
theorem k_Thought_storm {l0 : Int} {l1 : Int} {g : zi_M} {Q : Int → zi_M → Prop} (I : zk_I g) (p0 : 1 ≤ l0 ∧ l0 ≤ 6) (p1 : 0 ≤ l1) (hQ : ∀ v : Int, (v = (l0 * 13) + l1) → Q v g) : w_Thought_storm l0 l1 g Q := by
  unfold w_Thought_storm
  exact hQ _ (by intros; omega)
-- SpoutNews$Told.minutes(II)I
set_option maxRecDepth 100000 in
set_option maxHeartbeats 4000000 in
theorem k_Told_minutes_l5 {g : zi_M} (I : zk_I g) {l2 : Int} {K36 : Int → zi_M → Prop} {Q : Int → zi_M → Prop} (q2 : 0 ≤ l2 ∧ l2 ≤ 12) (hK36 : ∀ (k3 : Int), (0 ≤ k3 ∧ k3 ≤ 720) → K36 k3 g) (hQ : ∀ v : Int, (0 ≤ v ∧ v ≤ 720) → Q v g) : ∀ (n : Nat) {l3 : Int} {l4 : Int}, (0 ≤ l3 ∧ l3 ≤ 720) → (0 ≤ l4 ∧ l4 ≤ 12) → (l3 ≤ 60 * l4) → 12 - l4 < (n : Int) → w_Told_minutes_l5 l2 K36 Q n l3 l4 g
  | 0, l3, l4, b0, b1, b2, hm => by exfalso; omega
  | n + 1, l3, l4, b0, b1, b2, hm => by
    unfold w_Told_minutes_l5
    refine ⟨⟨by omega, by omega⟩, ⟨by omega, by omega⟩, ?_⟩
    refine ⟨fun c6 => ?_, fun c6 => ?_⟩
    · exact hK36 _ ⟨by omega, by omega⟩
    · have m_1 : 0 ≤ (g 36 12) ∧ (g 36 12) ≤ 12 := I.1 36 12
      refine ⟨⟨by omega, by omega⟩, ?_⟩
      refine ⟨fun c5 => ?_, fun c5 => ?_⟩
      · exact hK36 _ ⟨by omega, by omega⟩
      · refine ⟨⟨by omega, by omega⟩, ?_⟩
        have m_2 : 0 ≤ (g 45 l4) ∧ (g 45 l4) ≤ 60 := I.1 45 l4
        exact k_Told_minutes_l5 I q2 hK36 hQ n ⟨by omega, by omega⟩ ⟨by omega, by omega⟩ (by omega) (by omega)
set_option maxRecDepth 100000 in
set_option maxHeartbeats 4000000 in
theorem k_Told_minutes {l1 : Int} {l2 : Int} {g : zi_M} {Q : Int → zi_M → Prop} (I : zk_I g) (p1 : 0 ≤ l1 ∧ l1 ≤ 12) (p2 : 0 ≤ l2 ∧ l2 ≤ 12) (hQ : ∀ v : Int, (0 ≤ v ∧ v ≤ 720) → Q v g) : w_Told_minutes l1 l2 g Q := by
  unfold w_Told_minutes
  refine ⟨((12 - l1 : Int).toNat + 1), k_Told_minutes_l5 (l2 := l2) I ⟨by omega, by omega⟩ (fun k7 b_3 => ?_) hQ ((12 - l1 : Int).toNat + 1) ⟨by omega, by omega⟩ ⟨by omega, by omega⟩ (by omega) (by omega)⟩
  exact hQ _ ⟨by omega, by omega⟩
-- SpoutNews$Thought.greatestSum(LSpoutNews$Told;III)I
set_option maxRecDepth 100000 in
set_option maxHeartbeats 4000000 in
theorem k_Thought_greatestSum {l2 : Int} {l3 : Int} {l4 : Int} {g : zi_M} {Q : Int → zi_M → Prop} (I : zk_I g) (p2 : 2 ≤ l2 ∧ l2 ≤ 6) (p3 : 0 ≤ l3 ∧ l3 ≤ 12) (p4 : 1 ≤ l4 ∧ l4 ≤ 11) (hQ : ∀ v : Int, (0 ≤ v ∧ v ≤ 720) → Q v g) : w_Thought_greatestSum l2 l3 l4 g Q := by
  unfold w_Thought_greatestSum
  refine k_Told_minutes I ⟨by omega, by omega⟩ ⟨by omega, by omega⟩ (fun v1 b_1 => ?_)
  refine k_Thought_storm I ⟨by omega, by omega⟩ (by omega) (fun v4 b_2 => ?_)
  refine ⟨⟨by omega, by omega⟩, ?_⟩
  have m_3 : 0 ≤ (g 189 v4) ∧ (g 189 v4) ≤ 720 := I.1 189 v4
  refine ⟨⟨by omega, by omega⟩, ⟨by omega, by omega⟩, ?_⟩
  exact hQ _ ⟨by omega, by omega⟩
-- SpoutNews$Thought.readInStorms(LSpoutNews$Told;I)V
noncomputable def fr_Thought_readInStorms (a : Nat) (i : Int) : Prop := a = 189
set_option maxRecDepth 100000 in
set_option maxHeartbeats 4000000 in
theorem k_Thought_readInStorms_l2 {K35 : zi_M → Prop} {Q : Int → zi_M → Prop} {g0 : zi_M} (hK35 : ∀ (g : zi_M), zk_I g → zk_fr fr_Thought_readInStorms g0 g → K35 g) (hQ : ∀ g' : zi_M, zk_I g' → zk_fr fr_Thought_readInStorms g0 g' → Q 0 g') : ∀ (n : Nat) {l3 : Int} {g : zi_M}, zk_I g → zk_fr fr_Thought_readInStorms g0 g → (0 ≤ l3 ∧ l3 ≤ 13) → 13 - l3 < (n : Int) → w_Thought_readInStorms_l2 K35 Q n l3 g
  | 0, l3, g, I, F, b0, hm => by exfalso; omega
  | n + 1, l3, g, I, F, b0, hm => by
    unfold w_Thought_readInStorms_l2
    have m_1 : 0 ≤ (g 36 12) ∧ (g 36 12) ≤ 12 := I.1 36 12
    refine ⟨⟨by omega, by omega⟩, ⟨by omega, by omega⟩, ?_⟩
    refine ⟨fun c11 => ?_, fun c11 => ?_⟩
    · exact hK35 _ I F
    · refine k_Thought_storm I ⟨by omega, by omega⟩ (by omega) (fun v3 b_2 => ?_)
      refine k_Told_minutes I ⟨by omega, by omega⟩ ⟨by omega, by omega⟩ (fun v6 b_3 => ?_)
      refine ⟨⟨by omega, by omega⟩, ?_⟩
      intro g10 e_4
      have I_5 : zk_I g10 := by rw [e_4]; exact zk_upd (L := 0) (H := 720) rfl rfl I ⟨by omega, by omega⟩
      have F_6 : zk_fr fr_Thought_readInStorms g0 g10 := by rw [e_4]; exact zk_fu F rfl
      exact k_Thought_readInStorms_l2 hK35 hQ n I_5 F_6 ⟨by omega, by omega⟩ (by omega)
set_option maxRecDepth 100000 in
set_option maxHeartbeats 4000000 in
theorem k_Thought_readInStorms_l73 {l3 : Int} {l4 : Int} {K109 : Int → zi_M → Prop} {Q : Int → zi_M → Prop} {g0 : zi_M} (q3 : 2 ≤ l3 ∧ l3 ≤ 6) (q4 : 0 ≤ l4 ∧ l4 ≤ 10) (hK109 : ∀ (k5 : Int) (g : zi_M), zk_I g → zk_fr fr_Thought_readInStorms g0 g → (0 ≤ k5 ∧ k5 ≤ 720) → K109 k5 g) (hQ : ∀ g' : zi_M, zk_I g' → zk_fr fr_Thought_readInStorms g0 g' → Q 0 g') : ∀ (n : Nat) {l5 : Int} {l6 : Int} {g : zi_M}, zk_I g → zk_fr fr_Thought_readInStorms g0 g → (0 ≤ l5 ∧ l5 ≤ 720) → (1 ≤ l6 ∧ l6 ≤ 12) → 12 - l6 < (n : Int) → w_Thought_readInStorms_l73 l3 l4 K109 Q n l5 l6 g
  | 0, l5, l6, g, I, F, b0, b1, hm => by exfalso; omega
  | n + 1, l5, l6, g, I, F, b0, b1, hm => by
    unfold w_Thought_readInStorms_l73
    have m_11 : 0 ≤ (g 36 12) ∧ (g 36 12) ≤ 12 := I.1 36 12
    refine ⟨⟨by omega, by omega⟩, ⟨by omega, by omega⟩, ?_⟩
    refine ⟨fun c27 => ?_, fun c27 => ?_⟩
    · exact hK109 _ _ I F ⟨by omega, by omega⟩
    · refine k_Thought_greatestSum I ⟨by omega, by omega⟩ ⟨by omega, by omega⟩ ⟨by omega, by omega⟩ (fun v22 b_12 => ?_)
      refine ⟨⟨by omega, by omega⟩, ⟨by omega, by omega⟩, ?_⟩
      exact k_Thought_readInStorms_l73 q3 q4 hK109 hQ n I F ⟨by omega, by omega⟩ ⟨by omega, by omega⟩ (by omega)
set_option maxRecDepth 100000 in
set_option maxHeartbeats 4000000 in
theorem k_Thought_readInStorms_l45 {l3 : Int} {K128 : zi_M → Prop} {Q : Int → zi_M → Prop} {g0 : zi_M} (q3 : 2 ≤ l3 ∧ l3 ≤ 6) (hK128 : ∀ (g : zi_M), zk_I g → zk_fr fr_Thought_readInStorms g0 g → K128 g) (hQ : ∀ g' : zi_M, zk_I g' → zk_fr fr_Thought_readInStorms g0 g' → Q 0 g') : ∀ (n : Nat) {l4 : Int} {g : zi_M}, zk_I g → zk_fr fr_Thought_readInStorms g0 g → (0 ≤ l4 ∧ l4 ≤ 11) → 11 - l4 < (n : Int) → w_Thought_readInStorms_l45 l3 K128 Q n l4 g
  | 0, l4, g, I, F, b0, hm => by exfalso; omega
  | n + 1, l4, g, I, F, b0, hm => by
    unfold w_Thought_readInStorms_l45
    have m_9 : 0 ≤ (g 36 12) ∧ (g 36 12) ≤ 12 := I.1 36 12
    refine ⟨⟨by omega, by omega⟩, ⟨by omega, by omega⟩, ?_⟩
    refine ⟨fun c36 => ?_, fun c36 => ?_⟩
    · exact hK128 _ I F
    · refine k_Told_minutes I ⟨by omega, by omega⟩ ⟨by omega, by omega⟩ (fun v17 b_10 => ?_)
      refine ⟨((12 - (l4 + 1) : Int).toNat + 1), k_Thought_readInStorms_l73 (l3 := l3) (l4 := l4) ⟨by omega, by omega⟩ ⟨by omega, by omega⟩ (fun k28 g29 I_13 F_14 b_15 => ?_) hQ ((12 - (l4 + 1) : Int).toNat + 1) I F ⟨by omega, by omega⟩ ⟨by omega, by omega⟩ (by omega)⟩
      refine k_Thought_storm I_13 ⟨by omega, by omega⟩ (by omega) (fun v30 b_16 => ?_)
      refine ⟨⟨by omega, by omega⟩, ?_⟩
      intro g34 e_17
      have I_18 : zk_I g34 := by rw [e_17]; exact zk_upd (L := 0) (H := 720) rfl rfl I_13 ⟨by omega, by omega⟩
      have F_19 : zk_fr fr_Thought_readInStorms g0 g34 := by rw [e_17]; exact zk_fu F_14 rfl
      exact k_Thought_readInStorms_l45 q3 hK128 hQ n I_18 F_19 ⟨by omega, by omega⟩ (by omega)
set_option maxRecDepth 100000 in
set_option maxHeartbeats 4000000 in
theorem k_Thought_readInStorms_l37 {l2 : Int} {K134 : zi_M → Prop} {Q : Int → zi_M → Prop} {g0 : zi_M} (q2 : 1 ≤ l2 ∧ l2 ≤ 6) (hK134 : ∀ (g : zi_M), zk_I g → zk_fr fr_Thought_readInStorms g0 g → K134 g) (hQ : ∀ g' : zi_M, zk_I g' → zk_fr fr_Thought_readInStorms g0 g' → Q 0 g') : ∀ (n : Nat) {l3 : Int} {g : zi_M}, zk_I g → zk_fr fr_Thought_readInStorms g0 g → (2 ≤ l3 ∧ l3 ≤ 7) → 7 - l3 < (n : Int) → w_Thought_readInStorms_l37 l2 K134 Q n l3 g
  | 0, l3, g, I, F, b0, hm => by exfalso; omega
  | n + 1, l3, g, I, F, b0, hm => by
    unfold w_Thought_readInStorms_l37
    refine ⟨⟨by omega, by omega⟩, ⟨by omega, by omega⟩, ?_⟩
    refine ⟨fun c39 => ?_, fun c39 => ?_⟩
    · exact hK134 _ I F
    · refine ⟨((11 - 0 : Int).toNat + 1), k_Thought_readInStorms_l45 (l3 := l3) ⟨by omega, by omega⟩ (fun g37 I_20 F_21 => ?_) hQ ((11 - 0 : Int).toNat + 1) I F ⟨by omega, by omega⟩ (by omega)⟩
      exact k_Thought_readInStorms_l37 q2 hK134 hQ n I_20 F_21 ⟨by omega, by omega⟩ (by omega)
set_option maxRecDepth 100000 in
set_option maxHeartbeats 4000000 in
theorem k_Thought_readInStorms {l2 : Int} {g : zi_M} {Q : Int → zi_M → Prop} (I : zk_I g) (p2 : 1 ≤ l2 ∧ l2 ≤ 6) (hQ : ∀ g' : zi_M, zk_I g' → zk_fr fr_Thought_readInStorms g g' → Q 0 g') : w_Thought_readInStorms l2 g Q := by
  unfold w_Thought_readInStorms
  refine ⟨((13 - 0 : Int).toNat + 1), k_Thought_readInStorms_l2 (fun g12 I_7 F_8 => ?_) hQ ((13 - 0 : Int).toNat + 1) I (zk_f0 _) ⟨by omega, by omega⟩ (by omega)⟩
  refine ⟨((7 - 2 : Int).toNat + 1), k_Thought_readInStorms_l37 (l2 := l2) ⟨by omega, by omega⟩ (fun g40 I_22 F_23 => ?_) hQ ((7 - 2 : Int).toNat + 1) I_7 F_8 ⟨by omega, by omega⟩ (by omega)⟩
  exact hQ _ I_22 F_23
-- SpoutNews$Thought.leastSum(I)I
set_option maxRecDepth 100000 in
set_option maxHeartbeats 4000000 in
theorem k_Thought_leastSum {l1 : Int} {g : zi_M} {Q : Int → zi_M → Prop} (I : zk_I g) (p1 : 1 ≤ l1 ∧ l1 ≤ 6) (hQ : ∀ v : Int, (0 ≤ v ∧ v ≤ 720) → Q v g) : w_Thought_leastSum l1 g Q := by
  unfold w_Thought_leastSum
  refine k_Thought_storm I ⟨by omega, by omega⟩ (by omega) (fun v1 b_1 => ?_)
  refine ⟨⟨by omega, by omega⟩, ?_⟩
  have m_2 : 0 ≤ (g 189 v1) ∧ (g 189 v1) ≤ 720 := I.1 189 v1
  exact hQ _ ⟨by omega, by omega⟩
-- SpoutNews$Thought.secondStorm(LSpoutNews$Told;I)I
set_option maxRecDepth 100000 in
set_option maxHeartbeats 4000000 in
theorem k_Thought_secondStorm_l2 {g : zi_M} (I : zk_I g) {l2 : Int} {K35 : Int → zi_M → Prop} {K43 : zi_M → Prop} {Q : Int → zi_M → Prop} (q2 : 1 ≤ l2 ∧ l2 ≤ 6) (hK35 : ∀ (k3 : Int), (1 ≤ k3 ∧ k3 ≤ 11) → K35 k3 g) (hK43 : K43 g) (hQ : ∀ v : Int, ((-1) ≤ v ∧ v ≤ 11) → Q v g) : ∀ (n : Nat) {l3 : Int}, (1 ≤ l3 ∧ l3 ≤ 12) → 12 - l3 < (n : Int) → w_Thought_secondStorm_l2 l2 K35 K43 Q n l3 g
  | 0, l3, b0, hm => by exfalso; omega
  | n + 1, l3, b0, hm => by
    unfold w_Thought_secondStorm_l2
    refine ⟨⟨by omega, by omega⟩, ?_⟩
    refine ⟨fun c14 => ?_, fun c14 => ?_⟩
    · exact hK43
    · have m_1 : 0 ≤ (g 36 12) ∧ (g 36 12) ≤ 12 := I.1 36 12
      refine ⟨⟨by omega, by omega⟩, ⟨by omega, by omega⟩, ?_⟩
      refine ⟨fun c13 => ?_, fun c13 => ?_⟩
      · exact hK43
      · refine k_Thought_greatestSum I ⟨by omega, by omega⟩ ⟨by omega, by omega⟩ ⟨by omega, by omega⟩ (fun v4 b_2 => ?_)
        refine k_Thought_leastSum I ⟨by omega, by omega⟩ (fun v7 b_3 => ?_)
        refine ⟨⟨by omega, by omega⟩, ⟨by omega, by omega⟩, ?_⟩
        refine ⟨fun c12 => ?_, fun c12 => ?_⟩
        · exact k_Thought_secondStorm_l2 I q2 hK35 hK43 hQ n ⟨by omega, by omega⟩ (by omega)
        · exact hK35 _ ⟨by omega, by omega⟩
set_option maxRecDepth 100000 in
set_option maxHeartbeats 4000000 in
theorem k_Thought_secondStorm {l2 : Int} {g : zi_M} {Q : Int → zi_M → Prop} (I : zk_I g) (p2 : 1 ≤ l2 ∧ l2 ≤ 6) (hQ : ∀ v : Int, ((-1) ≤ v ∧ v ≤ 11) → Q v g) : w_Thought_secondStorm l2 g Q := by
  unfold w_Thought_secondStorm
  refine ⟨((12 - 1 : Int).toNat + 1), k_Thought_secondStorm_l2 (l2 := l2) I ⟨by omega, by omega⟩ (fun k15 b_4 => ?_) (?_) hQ ((12 - 1 : Int).toNat + 1) ⟨by omega, by omega⟩ (by omega)⟩
  · exact hQ _ ⟨by omega, by omega⟩
  · exact hQ _ ⟨by omega, by omega⟩
-- SpoutNews.read(II)I
noncomputable def fr_S_read (a : Nat) (i : Int) : Prop := a = 189
set_option maxRecDepth 100000 in
set_option maxHeartbeats 4000000 in
theorem k_S_read_b36 {l1 : Int} {l2 : Int} {Q : Int → zi_M → Prop} {g : zi_M} {g0 : zi_M} (I : zk_I g) (F : zk_fr fr_S_read g0 g) (p1 : 1 ≤ l1 ∧ l1 ≤ 6) (p2 : 0 ≤ l2 ∧ l2 ≤ 1) (hQ : ∀ (v : Int) (g' : zi_M), zk_I g' → zk_fr fr_S_read g0 g' → ((-1) ≤ v ∧ v ≤ 720) → Q v g') : w_S_read_b36 l1 l2 g Q := by
  unfold w_S_read_b36
  refine k_Thought_readInStorms I ⟨by omega, by omega⟩ (fun g5 I_2 F_3 => ?_)
  have F_4 : zk_fr fr_S_read g0 g5 := zk_ft F F_3 (fun a i => (fun h => h))
  refine ⟨⟨by omega, by omega⟩, ?_⟩
  refine ⟨fun c14 => ?_, fun c14 => ?_⟩
  · refine k_Thought_secondStorm I_2 ⟨by omega, by omega⟩ (fun v8 b_5 => ?_)
    exact hQ _ _ I_2 F_4 ⟨by omega, by omega⟩
  · refine k_Thought_leastSum I_2 ⟨by omega, by omega⟩ (fun v11 b_6 => ?_)
    exact hQ _ _ I_2 F_4 ⟨by omega, by omega⟩
set_option maxRecDepth 100000 in
set_option maxHeartbeats 4000000 in
theorem k_S_read {l1 : Int} {l2 : Int} {g : zi_M} {Q : Int → zi_M → Prop} (I : zk_I g) (p1 : (-2147483648) ≤ l1 ∧ l1 ≤ 2147483647) (p2 : (-2147483648) ≤ l2 ∧ l2 ≤ 2147483647) (hQ : ∀ (v : Int) (g' : zi_M), zk_I g' → zk_fr fr_S_read g g' → ((-1) ≤ v ∧ v ≤ 720) → Q v g') : w_S_read l1 l2 g Q := by
  unfold w_S_read
  refine ⟨⟨by omega, by omega⟩, ?_⟩
  refine ⟨fun c19 => ?_, fun c19 => ?_⟩
  · exact hQ _ _ I (zk_f0 _) ⟨by omega, by omega⟩
  · refine ⟨fun c18 => ?_, fun c18 => ?_⟩
    · exact hQ _ _ I (zk_f0 _) ⟨by omega, by omega⟩
    · have m_1 : 0 ≤ (g 36 12) ∧ (g 36 12) ≤ 12 := I.1 36 12
      refine ⟨⟨by omega, by omega⟩, ?_⟩
      refine ⟨fun c17 => ?_, fun c17 => ?_⟩
      · exact hQ _ _ I (zk_f0 _) ⟨by omega, by omega⟩
      · refine ⟨⟨by omega, by omega⟩, ?_⟩
        refine ⟨fun c16 => ?_, fun c16 => ?_⟩
        · exact k_S_read_b36 I (zk_f0 _) ⟨by omega, by omega⟩ ⟨by omega, by omega⟩ hQ
        · refine ⟨fun c15 => ?_, fun c15 => ?_⟩
          · exact k_S_read_b36 I (zk_f0 _) ⟨by omega, by omega⟩ ⟨by omega, by omega⟩ hQ
          · exact hQ _ _ I (zk_f0 _) ⟨by omega, by omega⟩
-- SpoutNewsModel.minutesOf(II)I
theorem k_M_minutesOf_l5 {g : zi_M} {l1 l2 : Int} {K : Int → zi_M → Prop} {Q : Int → zi_M → Prop} (I : zk_I g) (p1 : 0 ≤ l1 ∧ l1 ≤ 12) (p2 : 1 ≤ l2 ∧ l2 ≤ 12) (hK : ∀ v, 0 ≤ v → v ≤ 720 → v = zmin g l1 l2 → K v g) :
    ∀ (n : Nat) (l3 l4 : Int), l1 ≤ l4 → (l4 ≤ l2 ∨ l4 = l1) → l3 = zmin g l1 l4 → 0 ≤ l3 → l3 ≤ 60 * (l4 - l1) → 12 - l4 < (n : Int) → w_M_minutesOf_l5 l2 K Q n l3 l4 g
  | 0, l3, l4, h1, h2, h3, h4, h5, hm => by exfalso; omega
  | n + 1, l3, l4, h1, h2, h3, h4, h5, hm => by
    unfold w_M_minutesOf_l5
    refine ⟨⟨by omega, by omega⟩, ⟨by omega, by omega⟩, fun h => hK l3 h4 (by omega) ?_, fun h => ⟨⟨by omega, by omega⟩, ?_⟩⟩
    · rcases h2 with q | q
      · rw [h3, show l4 = l2 by omega]
      · rw [h3, q, zmin_0 (Int.le_refl _), zmin_0 (by omega)]
    · have r : 0 ≤ g 248 l4 ∧ g 248 l4 ≤ 60 := I.1 248 l4
      exact k_M_minutesOf_l5 I p1 p2 hK n _ (l4 + 1) (by omega) (by omega) (by rw [zmin_s h1, h3]) (by omega) (by omega) (by omega)
theorem k_M_minutesOf {l1 : Int} {l2 : Int} {g : zi_M} {Q : Int → zi_M → Prop} (I : zk_I g) (p1 : 0 ≤ l1 ∧ l1 ≤ 12) (p2 : 1 ≤ l2 ∧ l2 ≤ 12) (hQ : ∀ v : Int, (0 ≤ v ∧ v ≤ 720) → (v = zmin g l1 l2) → Q v g) : w_M_minutesOf l1 l2 g Q := by
  unfold w_M_minutesOf
  exact ⟨13, k_M_minutesOf_l5 I p1 p2 (fun v h0 h1 h => hQ v ⟨h0, h1⟩ h) 13 0 l1 (Int.le_refl _) (Or.inr rfl) (zmin_0 (Int.le_refl _)).symm (by decide) (by omega) (by omega)⟩

-- SpoutNewsModel.findsRead(I)V
noncomputable def fr_M_findsRead (a : Nat) (i : Int) : Prop := a = 249
theorem k_M_findsRead_l50 {g : zi_M} {l2 l3 : Int} {K : Int → zi_M → Prop} {Q : Int → zi_M → Prop} (I : zk_I g) (q2 : 0 ≤ l2 ∧ l2 ≤ 12) (q3 : 1 ≤ l3 ∧ l3 ≤ 6) (hK : ∀ v, 0 ≤ v → v ≤ 100000000 → (l2 + 1 ≤ g 214 58 → ∃ to : Int, l2 + 1 ≤ to ∧ to ≤ g 214 58 ∧ max (zmin g l2 to) (g 249 (7 * to + l3 - 1)) = v) → K v g) :
    ∀ (n : Nat) (l4 l5 : Int), 0 ≤ l4 → l4 ≤ 100000000 → l2 + 1 ≤ l5 → l5 ≤ 13 → (l4 = 100000000 ∨ ∃ to : Int, l2 + 1 ≤ to ∧ to < l5 ∧ max (zmin g l2 to) (g 249 (7 * to + l3 - 1)) = l4) → (l2 + 1 < l5 → ∃ to : Int, l2 + 1 ≤ to ∧ to < l5 ∧ max (zmin g l2 to) (g 249 (7 * to + l3 - 1)) = l4) → l5 ≤ g 214 58 + 1 ∨ l5 = l2 + 1 → 13 - l5 < (n : Int) → w_M_findsRead_l50 l2 l3 K Q n l4 l5 g
  | 0, l4, l5, h0, h1, h2, h3, h4, h5, h6, hm => by exfalso; omega
  | n + 1, l4, l5, h0, h1, h2, h3, h4, h5, h6, hm => by
    have c : 0 ≤ g 214 58 ∧ g 214 58 ≤ 12 := I.1 214 58
    unfold w_M_findsRead_l50
    refine ⟨⟨by omega, by omega⟩, zk_rng I _ _, fun h => hK l4 h0 h1 (fun h7 => ?_), fun h => ?_⟩
    · obtain ⟨to, t1, t2, t3⟩ := h5 (by omega)
      exact ⟨to, t1, by omega, t3⟩
    · refine k_M_minutesOf I ⟨q2.1, by omega⟩ ⟨by omega, by omega⟩ (fun v9 r9 e9 => ⟨⟨by omega, by omega⟩, ?_⟩)
      have rf : 0 ≤ g 249 (7 * l5 + l3 - 1) ∧ g 249 (7 * l5 + l3 - 1) ≤ 100000000 := I.1 249 _
      refine k_M_greater I ⟨by omega, by omega⟩ ⟨by omega, by omega⟩ (fun v13 a1 a2 => ?_)
      have e13 : v13 = max (zmin g l2 l5) (g 249 (7 * l5 + l3 - 1)) := by rw [← e9]; omega
      refine k_M_lesser I ⟨by omega, by omega⟩ ⟨by omega, by omega⟩ (fun v16 b1 b2 => ?_)
      have key : ∃ to : Int, l2 + 1 ≤ to ∧ to < l5 + 1 ∧ max (zmin g l2 to) (g 249 (7 * to + l3 - 1)) = v16 := by
        by_cases cc : l4 < v13
        · have e16 : v16 = l4 := by omega
          rcases h4 with q | ⟨to, t1, t2, t3⟩
          · exfalso; omega
          · exact ⟨to, t1, by omega, by rw [t3, e16]⟩
        · have e16 : v16 = v13 := by omega
          exact ⟨l5, h2, by omega, by rw [e16, e13]⟩
      exact k_M_findsRead_l50 I q2 q3 hK n v16 (l5 + 1) (by omega) (by omega) (by omega) (by omega) (Or.inr key) (fun _ => key) (Or.inl (by omega)) (by omega)
theorem k_M_findsRead_l35 {g0 : zi_M} {l1 l2 : Int} {K : zi_M → Prop} {Q : Int → zi_M → Prop} (q1 : 1 ≤ l1 ∧ l1 ≤ 6) (q2 : 0 ≤ l2 ∧ l2 ≤ 12) (hK : ∀ g, zk_I g → zk_fr fr_M_findsRead g0 g → (l2 + 1 ≤ g 214 58 → ∃ to : Int, l2 + 1 ≤ to ∧ to ≤ g 214 58 ∧ max (zmin g l2 to) (g 249 (7 * to + l1 - 1)) = g 249 (7 * l2 + l1)) → K g) :
    ∀ (n : Nat) (l3 : Int) (g : zi_M), zk_I g → zk_fr fr_M_findsRead g0 g → 1 ≤ l3 → l3 ≤ 7 → (l1 < l3 → l2 + 1 ≤ g 214 58 → ∃ to : Int, l2 + 1 ≤ to ∧ to ≤ g 214 58 ∧ max (zmin g l2 to) (g 249 (7 * to + l1 - 1)) = g 249 (7 * l2 + l1)) → 7 - l3 < (n : Int) → w_M_findsRead_l35 l1 l2 K Q n l3 g
  | 0, l3, g, I, F, h0, h1, h2, hm => by exfalso; omega
  | n + 1, l3, g, I, F, h0, h1, h2, hm => by
    unfold w_M_findsRead_l35
    refine ⟨⟨by omega, by omega⟩, ⟨by omega, by omega⟩, fun h => hK g I F (h2 h), fun h => ⟨14, ?_⟩⟩
    refine k_M_findsRead_l50 I q2 ⟨h0, by omega⟩ (fun v v0 v1 hv => ⟨⟨by omega, by omega⟩, ?_⟩) 14 100000000 (l2 + 1) (by decide) (by decide) (Int.le_refl _) (by omega) (Or.inl rfl) (fun q => by omega) (Or.inr rfl) (by omega)
    intro g23 e23
    have I23 : zk_I g23 := by rw [e23]; exact zk_upd (L := 0) (H := 100000000) rfl rfl I ⟨v0, v1⟩
    have F23 : zk_fr fr_M_findsRead g0 g23 := by rw [e23]; exact zk_fu F rfl
    have c : g23 214 58 = g 214 58 := by rw [e23]; exact zi_u_ne (by decide)
    have zc : ∀ a b, zmin g23 a b = zmin g a b := fun a b => zmin_c (fun i => by rw [e23]; exact zi_u_ne (by decide))
    refine k_M_findsRead_l35 q1 q2 hK n (l3 + 1) g23 I23 F23 (by omega) (by omega) (fun hl hc => ?_) (by omega)
    have el : l3 = l1 := by omega
    rw [c] at hc ⊢
    obtain ⟨to, t1, t2, t3⟩ := hv hc
    refine ⟨to, t1, t2, ?_⟩
    rw [zc, e23, el, zi_u_eq, zi_u_ni (by omega), ← el]
    exact t3
theorem k_M_findsRead_l5 {g0 : zi_M} {l1 : Int} {K : zi_M → Prop} {Q : Int → zi_M → Prop} (q1 : 1 ≤ l1 ∧ l1 ≤ 6) (hK : ∀ g, zk_I g → zk_fr fr_M_findsRead g0 g → (1 ≤ g 214 58 → ∃ to : Int, 1 ≤ to ∧ to ≤ g 214 58 ∧ max (zmin g 0 to) (g 249 (7 * to + l1 - 1)) = g 249 l1) → K g) :
    ∀ (n : Nat) (l2 : Int) (g : zi_M), zk_I g → zk_fr fr_M_findsRead g0 g → -1 ≤ l2 → l2 ≤ 12 → (l2 = -1 → 1 ≤ g 214 58 → ∃ to : Int, 1 ≤ to ∧ to ≤ g 214 58 ∧ max (zmin g 0 to) (g 249 (7 * to + l1 - 1)) = g 249 l1) → l2 + 1 < (n : Int) → w_M_findsRead_l5 l1 K Q n l2 g
  | 0, l2, g, I, F, h0, h1, h2, hm => by exfalso; omega
  | n + 1, l2, g, I, F, h0, h1, h2, hm => by
    unfold w_M_findsRead_l5
    have fin : 0 ≤ l2 → ∀ (v : Int) (g4 : zi_M), 0 ≤ v → v ≤ 100000000 → g4 = zi_u g 249 (7 * l2) v → (∃ f, w_M_findsRead_l35 l1 l2 (fun g26 => w_M_findsRead_l5 l1 K Q n (l2 + (-1)) g26) Q f 1 g4) := by
      intro hl v g4 v0 v1 e4
      have I4 : zk_I g4 := by rw [e4]; exact zk_upd (L := 0) (H := 100000000) rfl rfl I ⟨v0, v1⟩
      have F4 : zk_fr fr_M_findsRead g0 g4 := by rw [e4]; exact zk_fu F rfl
      refine ⟨7, k_M_findsRead_l35 q1 ⟨hl, h1⟩ (fun g' I' F' h' => ?_) 7 1 g4 I4 F4 (by decide) (by decide) (fun q => by omega) (by decide)⟩
      refine k_M_findsRead_l5 q1 hK n (l2 + (-1)) g' I' F' (by omega) (by omega) (fun e hc => ?_) (by omega)
      have e0 : l2 = 0 := by omega
      rw [e0] at h'
      obtain ⟨to, t1, t2, t3⟩ := h' (by omega)
      refine ⟨to, by omega, t2, ?_⟩
      rw [show (7 * 0 + l1 : Int) = l1 by omega] at t3
      exact t3
    refine ⟨⟨by omega, by omega⟩, fun h => hK g I F (h2 (by omega)), fun h => ⟨zk_rng I _ _, fun _ => ⟨⟨by omega, by omega⟩, fun g4 e4 => fin h _ g4 (by decide) (by decide) e4⟩, fun _ => ⟨⟨by omega, by omega⟩, fun g4 e4 => fin h _ g4 (by decide) (by decide) e4⟩⟩⟩
theorem k_M_findsRead {l1 : Int} {g : zi_M} {Q : Int → zi_M → Prop} (I : zk_I g) (p1 : 1 ≤ l1 ∧ l1 ≤ 6) (hQ : ∀ g' : zi_M, zk_I g' → zk_fr fr_M_findsRead g g' → (1 ≤ g' 214 58 → ∃ to : Int, 1 ≤ to ∧ to ≤ g' 214 58 ∧ max (zmin g' 0 to) (g' 249 (7 * to + l1 - 1)) = g' 249 l1) → Q 0 g') : w_M_findsRead l1 g Q := by
  unfold w_M_findsRead
  have c : 0 ≤ g 214 58 ∧ g 214 58 ≤ 12 := I.1 214 58
  exact ⟨14, k_M_findsRead_l5 p1 (fun g' I' F' h => hQ g' I' F' h) 14 (g 214 58) g I (zk_f0 _) (by omega) c.2 (fun e => by omega) (by omega)⟩

-- SpoutNewsModel.read(II)I
noncomputable def fr_M_read (a : Nat) (i : Int) : Prop := a = 249 ∨ (a = 214 ∧ i = 0)
theorem k_M_read_l61 {g : zi_M} {l1 : Int} {K : Int → zi_M → Prop} {Q : Int → zi_M → Prop} (I : zk_I g) (q1 : 1 ≤ l1 ∧ l1 ≤ 6) {to : Int} (t2 : to ≤ 12) (t3 : max (zmin g 0 to) (g 249 (7 * to + l1 - 1)) = g 249 l1) (hK : ∀ v, 1 ≤ v → v ≤ 12 → K v g) :
    ∀ (n : Nat) (l3 : Int), 1 ≤ l3 → l3 ≤ to → to - l3 < (n : Int) → w_M_read_l61 l1 K Q n l3 g
  | 0, l3, h0, h1, hm => by exfalso; omega
  | n + 1, l3, h0, h1, hm => by
    unfold w_M_read_l61
    refine k_M_minutesOf I ⟨by decide, by decide⟩ ⟨h0, by omega⟩ (fun v14 r14 e14 => ⟨⟨by omega, by omega⟩, ?_⟩)
    have rf : 0 ≤ g 249 (7 * l3 + l1 - 1) ∧ g 249 (7 * l3 + l1 - 1) ≤ 100000000 := I.1 249 _
    refine k_M_greater I ⟨by omega, by omega⟩ ⟨by omega, by omega⟩ (fun v18 a1 a2 => ⟨⟨by omega, by omega⟩, ⟨by omega, by omega⟩, zk_rng I _ _, fun _ => hK l3 h0 (by omega), fun ne => ?_⟩)
    by_cases e : l3 = to
    · exfalso
      rw [e] at e14 a1 a2
      rw [← e14] at t3
      omega
    · exact k_M_read_l61 I q1 t2 t3 hK n (l3 + 1) (by omega) (by omega) (by omega)
theorem k_M_read {l1 : Int} {l2 : Int} {g : zi_M} {Q : Int → zi_M → Prop} (I : zk_I g) (p1 : (-2147483648) ≤ l1 ∧ l1 ≤ 2147483647) (p2 : (-2147483648) ≤ l2 ∧ l2 ≤ 2147483647) (hQ : ∀ (v : Int) (g' : zi_M), zk_I g' → zk_fr fr_M_read g g' → ((-1) ≤ v) → Q v g') : w_M_read l1 l2 g Q := by
  unfold w_M_read
  intro g1 e1
  have I1 : zk_I g1 := by rw [e1]; exact zk_upd (L := -2147483648) (H := 2147483647) rfl rfl I ⟨by decide, by decide⟩
  have F1 : zk_fr fr_M_read g g1 := by rw [e1]; exact zk_fu (zk_f0 _) (Or.inr ⟨rfl, rfl⟩)
  have no : Q (-1) g1 := hQ _ _ I1 F1 (by decide)
  refine k_M_isIn I1 p1 ⟨by decide, by decide⟩ ⟨by decide, by decide⟩ (fun v2 a1 a2 a3 => ⟨fun _ => no, fun n2 => ⟨p1, zk_rng I1 _ _, fun _ => no, fun hc => ?_⟩⟩)
  refine k_M_isIn I1 p2 ⟨by decide, by decide⟩ ⟨by decide, by decide⟩ (fun v7 b1 b2 b3 => ⟨fun n7 => ?_, fun _ => no⟩)
  refine k_M_findsRead I1 ⟨by omega, by omega⟩ (fun g11 I11 F11 h11 => ?_)
  have F11' : zk_fr fr_M_read g g11 := zk_ft F1 F11 (fun a i h => Or.inl h)
  have c11 : g11 214 58 = g1 214 58 := F11 _ _ (by unfold fr_M_findsRead; omega)
  have r11 : 0 ≤ g11 214 58 ∧ g11 214 58 ≤ 12 := I11.1 214 58
  refine ⟨p2, fun _ => ⟨fun n1 => ?_, fun _ => hQ _ _ I11 F11' (by decide)⟩, fun _ => ⟨⟨by omega, by omega⟩, hQ _ _ I11 F11' (by have : (0 : Int) ≤ g11 249 l1 := (I11.1 249 l1).1; omega)⟩⟩
  have c1 : 1 ≤ g11 214 58 := by clear h11; omega
  obtain ⟨to, t1, t2, t3⟩ := h11 c1
  clear h11
  exact ⟨13, k_M_read_l61 I11 ⟨by omega, by omega⟩ (by omega) t3 (fun v h0 h1 => hQ _ _ I11 F11' (by omega)) 13 1 (by decide) t1 (by omega)⟩

-- SpoutNews$Thought.goodTake(LSpoutNews$World;I)I
set_option maxRecDepth 100000 in
set_option maxHeartbeats 4000000 in
theorem k_Thought_goodTake_l14 {g : zi_M} (I : zk_I g) {l1 : Int} {K48 : Int → zi_M → Prop} {Q : Int → zi_M → Prop} (q1 : 0 ≤ l1 ∧ l1 ≤ 9) (hK48 : ∀ (k2 : Int), (0 ≤ k2 ∧ k2 ≤ 3) → K48 k2 g) (hQ : ∀ v : Int, ((-1) ≤ v ∧ v ≤ 4) → Q v g) : ∀ (n : Nat) {l2 : Int} {l3 : Int}, (0 ≤ l2 ∧ l2 ≤ 3) → (0 ≤ l3 ∧ l3 ≤ 10) → 10 - l3 < (n : Int) → w_Thought_goodTake_l14 l1 K48 Q n l2 l3 g
  | 0, l2, l3, b0, b1, hm => by exfalso; omega
  | n + 1, l2, l3, b0, b1, hm => by
    unfold w_Thought_goodTake_l14
    have m_5 : 0 ≤ (g 2 8) ∧ (g 2 8) ≤ 10 := I.1 2 8
    refine ⟨⟨by omega, by omega⟩, ⟨by omega, by omega⟩, ?_⟩
    refine ⟨fun c10 => ?_, fun c10 => ?_⟩
    · exact hK48 _ ⟨by omega, by omega⟩
    · refine ⟨⟨by omega, by omega⟩, ?_⟩
      refine ⟨fun c9 => ?_, fun c9 => ?_⟩
      · refine ⟨⟨by omega, by omega⟩, ?_⟩
        have m_6 : 0 ≤ (g 8 l3) ∧ (g 8 l3) ≤ 20 := I.1 8 l3
        refine ⟨⟨by omega, by omega⟩, ?_⟩
        have m_7 := zi_tmod_f (g 8 l3) 3
        have m_8 := zi_tmod_c (g 8 l3) 3 (by decide)
        first | have m_9 := (zi_xor_f l2 (Int.tmod (g 8 l3) 3)).2.1 ⟨by omega, by omega, by omega, by omega⟩ | have m_9 := (zi_xor_f l2 (Int.tmod (g 8 l3) 3)).2.2.1 ⟨by omega, by omega, by omega, by omega⟩ | have m_9 := (zi_xor_f l2 (Int.tmod (g 8 l3) 3)).2.2.2 ⟨by omega, by omega, by omega, by omega⟩ | have m_9 := zi_r_xor l2 (Int.tmod (g 8 l3) 3)
        exact k_Thought_goodTake_l14 I q1 hK48 hQ n ⟨by omega, by omega⟩ ⟨by omega, by omega⟩ (by omega)
      · first | have m_10 := (zi_xor_f l2 0).2.1 ⟨by omega, by omega, by omega, by omega⟩ | have m_10 := (zi_xor_f l2 0).2.2.1 ⟨by omega, by omega, by omega, by omega⟩ | have m_10 := (zi_xor_f l2 0).2.2.2 ⟨by omega, by omega, by omega, by omega⟩ | have m_10 := zi_r_xor l2 0
        exact k_Thought_goodTake_l14 I q1 hK48 hQ n ⟨by omega, by omega⟩ ⟨by omega, by omega⟩ (by omega)
set_option maxRecDepth 100000 in
set_option maxHeartbeats 4000000 in
theorem k_Thought_goodTake_l50 {g : zi_M} (I : zk_I g) {l1 : Int} {l2 : Int} {K79 : Int → zi_M → Prop} {K88 : zi_M → Prop} {Q : Int → zi_M → Prop} (q1 : 0 ≤ l1 ∧ l1 ≤ 9) (q2 : 0 ≤ l2 ∧ l2 ≤ 3) (hK79 : ∀ (k3 : Int), (1 ≤ k3 ∧ k3 ≤ 4) → K79 k3 g) (hK88 : K88 g) (hQ : ∀ v : Int, ((-1) ≤ v ∧ v ≤ 4) → Q v g) : ∀ (n : Nat) {l3 : Int}, (1 ≤ l3 ∧ l3 ≤ 8) → 8 - l3 < (n : Int) → w_Thought_goodTake_l50 l1 l2 K79 K88 Q n l3 g
  | 0, l3, b0, hm => by exfalso; omega
  | n + 1, l3, b0, hm => by
    unfold w_Thought_goodTake_l50
    refine ⟨⟨by omega, by omega⟩, ?_⟩
    refine ⟨fun c21 => ?_, fun c21 => ?_⟩
    · exact hK88
    · refine ⟨⟨by omega, by omega⟩, ?_⟩
      have m_12 : 0 ≤ (g 8 l1) ∧ (g 8 l1) ≤ 20 := I.1 8 l1
      refine ⟨⟨by omega, by omega⟩, ?_⟩
      refine ⟨fun c20 => ?_, fun c20 => ?_⟩
      · exact hK88
      · refine ⟨⟨by omega, by omega⟩, ?_⟩
        have m_13 := zi_tmod_f ((g 8 l1) - l3) 3
        have m_14 := zi_tmod_c ((g 8 l1) - l3) 3 (by decide)
        refine ⟨⟨by omega, by omega⟩, ⟨by omega, by omega⟩, ?_⟩
        refine ⟨fun c19 => ?_, fun c19 => ?_⟩
        · exact k_Thought_goodTake_l50 I q1 q2 hK79 hK88 hQ n ⟨by omega, by omega⟩ (by omega)
        · exact hK79 _ ⟨by omega, by omega⟩
set_option maxRecDepth 100000 in
set_option maxHeartbeats 4000000 in
theorem k_Thought_goodTake {l1 : Int} {g : zi_M} {Q : Int → zi_M → Prop} (I : zk_I g) (p1 : (-1) ≤ l1 ∧ l1 ≤ 9) (hQ : ∀ v : Int, ((-1) ≤ v ∧ v ≤ 4) → Q v g) : w_Thought_goodTake l1 g Q := by
  unfold w_Thought_goodTake
  have m_4 : 0 ≤ (g 2 8) ∧ (g 2 8) ≤ 10 := I.1 2 8
  refine k_World_isSpout rfl I ⟨by omega, by omega⟩ (fun v1 b_1 b_2 b_3 => ?_)
  try simp only [Nat.reduceAdd] at b_1 b_2 b_3
  refine ⟨fun c27 => ?_, fun c27 => ?_⟩
  · refine ⟨((10 - 0 : Int).toNat + 1), k_Thought_goodTake_l14 (l1 := l1) I ⟨by omega, by omega⟩ (fun k11 b_11 => ?_) hQ ((10 - 0 : Int).toNat + 1) ⟨by omega, by omega⟩ ⟨by omega, by omega⟩ (by omega)⟩
    refine ⟨((8 - 1 : Int).toNat + 1), k_Thought_goodTake_l50 (l1 := l1) (l2 := k11) I ⟨by omega, by omega⟩ ⟨by omega, by omega⟩ (fun k22 b_15 => ?_) (?_) hQ ((8 - 1 : Int).toNat + 1) ⟨by omega, by omega⟩ (by omega)⟩
    · exact hQ _ ⟨by omega, by omega⟩
    · exact hQ _ ⟨by omega, by omega⟩
  · exact hQ _ ⟨by omega, by omega⟩
-- SpoutNews$Thought.goodSpout(LSpoutNews$World;)I
set_option maxRecDepth 100000 in
set_option maxHeartbeats 4000000 in
theorem k_Thought_goodSpout_l2 {g : zi_M} (I : zk_I g) {K19 : Int → zi_M → Prop} {K27 : zi_M → Prop} {Q : Int → zi_M → Prop} (hK19 : ∀ (k1 : Int), (0 ≤ k1 ∧ k1 ≤ 9) → K19 k1 g) (hK27 : K27 g) (hQ : ∀ v : Int, ((-1) ≤ v ∧ v ≤ 9) → Q v g) : ∀ (n : Nat) {l1 : Int}, (0 ≤ l1 ∧ l1 ≤ 10) → 10 - l1 < (n : Int) → w_Thought_goodSpout_l2 K19 K27 Q n l1 g
  | 0, l1, b0, hm => by exfalso; omega
  | n + 1, l1, b0, hm => by
    unfold w_Thought_goodSpout_l2
    have m_1 : 0 ≤ (g 2 8) ∧ (g 2 8) ≤ 10 := I.1 2 8
    refine ⟨⟨by omega, by omega⟩, ⟨by omega, by omega⟩, ?_⟩
    refine ⟨fun c8 => ?_, fun c8 => ?_⟩
    · exact hK27
    · refine k_Thought_goodTake I ⟨by omega, by omega⟩ (fun v3 b_2 => ?_)
      refine ⟨⟨by omega, by omega⟩, ?_⟩
      refine ⟨fun c7 => ?_, fun c7 => ?_⟩
      · exact k_Thought_goodSpout_l2 I hK19 hK27 hQ n ⟨by omega, by omega⟩ (by omega)
      · exact hK19 _ ⟨by omega, by omega⟩
set_option maxRecDepth 100000 in
set_option maxHeartbeats 4000000 in
theorem k_Thought_goodSpout {g : zi_M} {Q : Int → zi_M → Prop} (I : zk_I g) (hQ : ∀ v : Int, ((-1) ≤ v ∧ v ≤ 9) → Q v g) : w_Thought_goodSpout g Q := by
  unfold w_Thought_goodSpout
  refine ⟨((10 - 0 : Int).toNat + 1), k_Thought_goodSpout_l2 I (fun k9 b_3 => ?_) (?_) hQ ((10 - 0 : Int).toNat + 1) ⟨by omega, by omega⟩ (by omega)⟩
  · exact hQ _ ⟨by omega, by omega⟩
  · exact hQ _ ⟨by omega, by omega⟩
-- SpoutNews.game(I)I
set_option maxRecDepth 100000 in
set_option maxHeartbeats 4000000 in
theorem k_S_game {l1 : Int} {g : zi_M} {Q : Int → zi_M → Prop} (I : zk_I g) (p1 : (-2147483648) ≤ l1 ∧ l1 ≤ 2147483647) (hQ : ∀ v : Int, ((-1) ≤ v ∧ v ≤ 9) → Q v g) : w_S_game l1 g Q := by
  unfold w_S_game
  refine ⟨⟨by omega, by omega⟩, ?_⟩
  refine ⟨fun c2_0 c2_1 => ?_, fun c2 => ?_, fun c2 => ?_⟩
  · exact hQ _ ⟨by omega, by omega⟩
  · refine k_Thought_goodSpout I (fun v3 b_1 => ?_)
    exact hQ _ ⟨by omega, by omega⟩
  · refine k_Thought_goodSpout I (fun v6 b_2 => ?_)
    refine k_Thought_goodTake I ⟨by omega, by omega⟩ (fun v9 b_3 => ?_)
    exact hQ _ ⟨by omega, by omega⟩
-- SpoutNewsModel.game(I)I
noncomputable def fr_M_game (a : Nat) (i : Int) : Prop := (a = 214 ∧ i = 0)
set_option maxRecDepth 100000 in
set_option maxHeartbeats 4000000 in
theorem k_M_game_l21 {K49 : Int → zi_M → Prop} {Q : Int → zi_M → Prop} {g0 : zi_M} (hK49 : ∀ (k2 : Int) (g : zi_M), zk_I g → zk_fr fr_M_game g0 g → (0 ≤ k2 ∧ k2 ≤ 3) → K49 k2 g) (hQ : ∀ (v : Int) (g' : zi_M), zk_I g' → zk_fr fr_M_game g0 g' → ((-1) ≤ v ∧ v ≤ 9) → Q v g') : ∀ (n : Nat) {l2 : Int} {l3 : Int} {g : zi_M}, zk_I g → zk_fr fr_M_game g0 g → (0 ≤ l2 ∧ l2 ≤ 3) → (0 ≤ l3 ∧ l3 ≤ 10) → 10 - l3 < (n : Int) → w_M_game_l21 K49 Q n l2 l3 g
  | 0, l2, l3, g, I, F, b0, b1, hm => by exfalso; omega
  | n + 1, l2, l3, g, I, F, b0, b1, hm => by
    unfold w_M_game_l21
    have m_7 : 0 ≤ (g 214 6) ∧ (g 214 6) ≤ 10 := I.1 214 6
    refine ⟨⟨by omega, by omega⟩, ⟨by omega, by omega⟩, ?_⟩
    refine ⟨fun c9 => ?_, fun c9 => ?_⟩
    · exact hK49 _ _ I F ⟨by omega, by omega⟩
    · refine ⟨⟨by omega, by omega⟩, ?_⟩
      have m_8 := zk_now26 I (i := (26 + l3)) (by omega)
      refine ⟨⟨by omega, by omega⟩, ?_⟩
      have m_9 := zi_tmod_f (g 215 (26 + l3)) 3
      have m_10 := zi_tmod_c (g 215 (26 + l3)) 3 (by decide)
      first | have m_11 := (zi_xor_f l2 (Int.tmod (g 215 (26 + l3)) 3)).2.1 ⟨by omega, by omega, by omega, by omega⟩ | have m_11 := (zi_xor_f l2 (Int.tmod (g 215 (26 + l3)) 3)).2.2.1 ⟨by omega, by omega, by omega, by omega⟩ | have m_11 := (zi_xor_f l2 (Int.tmod (g 215 (26 + l3)) 3)).2.2.2 ⟨by omega, by omega, by omega, by omega⟩ | have m_11 := zi_r_xor l2 (Int.tmod (g 215 (26 + l3)) 3)
      exact k_M_game_l21 hK49 hQ n I F ⟨by omega, by omega⟩ ⟨by omega, by omega⟩ (by omega)
set_option maxRecDepth 100000 in
set_option maxHeartbeats 4000000 in
theorem k_M_game_l73 {l2 : Int} {l4 : Int} {K107 : Int → zi_M → Prop} {K124 : zi_M → Prop} {Q : Int → zi_M → Prop} {g0 : zi_M} (q2 : 0 ≤ l2 ∧ l2 ≤ 3) (q4 : 0 ≤ l4 ∧ l4 ≤ 20) (hK107 : ∀ (k5 : Int) (g : zi_M), zk_I g → zk_fr fr_M_game g0 g → (1 ≤ k5 ∧ k5 ≤ 5) → K107 k5 g) (hK124 : ∀ (g : zi_M), zk_I g → zk_fr fr_M_game g0 g → K124 g) (hQ : ∀ (v : Int) (g' : zi_M), zk_I g' → zk_fr fr_M_game g0 g' → ((-1) ≤ v ∧ v ≤ 9) → Q v g') : ∀ (n : Nat) {l5 : Int} {g : zi_M}, zk_I g → zk_fr fr_M_game g0 g → (1 ≤ l5 ∧ l5 ≤ 5) → 5 - l5 < (n : Int) → w_M_game_l73 l2 l4 K107 K124 Q n l5 g
  | 0, l5, g, I, F, b0, hm => by exfalso; omega
  | n + 1, l5, g, I, F, b0, hm => by
    unfold w_M_game_l73
    refine k_M_lesser I ⟨by omega, by omega⟩ ⟨by omega, by omega⟩ (fun v15 b_16 b_17 => ?_)
    refine ⟨⟨by omega, by omega⟩, ⟨by omega, by omega⟩, ?_⟩
    refine ⟨fun c25 => ?_, fun c25 => ?_⟩
    · exact hK124 _ I F
    · refine ⟨fun c24 => ?_, fun c24 => ?_⟩
      · exact k_M_game_l73 q2 q4 hK107 hK124 hQ n I F ⟨by omega, by omega⟩ (by omega)
      · refine ⟨⟨by omega, by omega⟩, ?_⟩
        refine ⟨⟨by omega, by omega⟩, ?_⟩
        have m_18 := zi_tmod_f (l4 - l5) 3
        have m_19 := zi_tmod_c (l4 - l5) 3 (by decide)
        refine ⟨⟨by omega, by omega⟩, ?_⟩
        have m_20 := zi_tmod_f l4 3
        have m_21 := zi_tmod_c l4 3 (by decide)
        first | have m_22 := (zi_xor_f l2 (Int.tmod l4 3)).2.1 ⟨by omega, by omega, by omega, by omega⟩ | have m_22 := (zi_xor_f l2 (Int.tmod l4 3)).2.2.1 ⟨by omega, by omega, by omega, by omega⟩ | have m_22 := (zi_xor_f l2 (Int.tmod l4 3)).2.2.2 ⟨by omega, by omega, by omega, by omega⟩ | have m_22 := zi_r_xor l2 (Int.tmod l4 3)
        refine ⟨fun c23 => ?_, fun c23 => ?_⟩
        · exact k_M_game_l73 q2 q4 hK107 hK124 hQ n I F ⟨by omega, by omega⟩ (by omega)
        · exact hK107 _ _ I F ⟨by omega, by omega⟩
set_option maxRecDepth 100000 in
set_option maxHeartbeats 4000000 in
theorem k_M_game_l51 {l2 : Int} {K107 : Int → Int → zi_M → Prop} {K130 : zi_M → Prop} {Q : Int → zi_M → Prop} {g0 : zi_M} (q2 : 0 ≤ l2 ∧ l2 ≤ 3) (hK107 : ∀ (k3 : Int) (k5 : Int) (g : zi_M), zk_I g → zk_fr fr_M_game g0 g → (0 ≤ k3 ∧ k3 ≤ 9) → (1 ≤ k5 ∧ k5 ≤ 5) → K107 k3 k5 g) (hK130 : ∀ (g : zi_M), zk_I g → zk_fr fr_M_game g0 g → K130 g) (hQ : ∀ (v : Int) (g' : zi_M), zk_I g' → zk_fr fr_M_game g0 g' → ((-1) ≤ v ∧ v ≤ 9) → Q v g') : ∀ (n : Nat) {l3 : Int} {g : zi_M}, zk_I g → zk_fr fr_M_game g0 g → (0 ≤ l3 ∧ l3 ≤ 10) → 10 - l3 < (n : Int) → w_M_game_l51 l2 K107 K130 Q n l3 g
  | 0, l3, g, I, F, b0, hm => by exfalso; omega
  | n + 1, l3, g, I, F, b0, hm => by
    unfold w_M_game_l51
    have m_15 : 0 ≤ (g 214 6) ∧ (g 214 6) ≤ 10 := I.1 214 6
    refine ⟨⟨by omega, by omega⟩, ⟨by omega, by omega⟩, ?_⟩
    refine ⟨fun c30 => ?_, fun c30 => ?_⟩
    · exact hK130 _ I F
    · refine ⟨⟨by omega, by omega⟩, ?_⟩
      have m_28 := zk_now26 I (i := (26 + l3)) (by omega)
      refine ⟨((5 - 1 : Int).toNat + 1), k_M_game_l73 (l2 := l2) (l4 := (g 215 (26 + l3))) ⟨by omega, by omega⟩ ⟨by omega, by omega⟩ (fun k26 g27 I_23 F_24 b_25 => ?_) (fun g28 I_26 F_27 => ?_) hQ ((5 - 1 : Int).toNat + 1) I F ⟨by omega, by omega⟩ (by omega)⟩
      · exact hK107 _ _ _ I_23 F_24 ⟨by omega, by omega⟩ ⟨by omega, by omega⟩
      · exact k_M_game_l51 q2 hK107 hK130 hQ n I_26 F_27 ⟨by omega, by omega⟩ (by omega)
set_option maxRecDepth 100000 in
set_option maxHeartbeats 4000000 in
theorem k_M_game {l1 : Int} {g : zi_M} {Q : Int → zi_M → Prop} (I : zk_I g) (p1 : (-2147483648) ≤ l1 ∧ l1 ≤ 2147483647) (hQ : ∀ (v : Int) (g' : zi_M), zk_I g' → zk_fr fr_M_game g g' → ((-1) ≤ v ∧ v ≤ 9) → Q v g') : w_M_game l1 g Q := by
  unfold w_M_game
  intro g1 e_1
  have I_2 : zk_I g1 := by rw [e_1]; exact zk_upd (L := (-2147483648)) (H := 2147483647) rfl rfl I ⟨by omega, by omega⟩
  have F_3 : zk_fr fr_M_game g g1 := by rw [e_1]; exact zk_fu (zk_f0 _) ⟨rfl, rfl⟩
  refine k_M_isIn I_2 ⟨by omega, by omega⟩ ⟨by omega, by omega⟩ ⟨by omega, by omega⟩ (fun v2 b_4 b_5 b_6 => ?_)
  refine ⟨fun c39 => ?_, fun c39 => ?_⟩
  · refine ⟨((10 - 0 : Int).toNat + 1), k_M_game_l21 (fun k10 g11 I_12 F_13 b_14 => ?_) hQ ((10 - 0 : Int).toNat + 1) I_2 F_3 ⟨by omega, by omega⟩ ⟨by omega, by omega⟩ (by omega)⟩
    refine ⟨((10 - 0 : Int).toNat + 1), k_M_game_l51 (l2 := k10) ⟨by omega, by omega⟩ (fun k31 k32 g33 I_29 F_30 b_31 b_32 => ?_) (fun g36 I_33 F_34 => ?_) hQ ((10 - 0 : Int).toNat + 1) I_12 F_13 ⟨by omega, by omega⟩ (by omega)⟩
    · refine ⟨⟨by omega, by omega⟩, ?_⟩
      refine ⟨fun c35 => ?_, fun c35 => ?_⟩
      · exact hQ _ _ I_29 F_30 ⟨by omega, by omega⟩
      · exact hQ _ _ I_29 F_30 ⟨by omega, by omega⟩
    · exact hQ _ _ I_33 F_34 ⟨by omega, by omega⟩
  · exact hQ _ _ I_2 F_3 ⟨by omega, by omega⟩
-- SpoutNews$Past.goBack(LSpoutNews$World;)Z
noncomputable def fr_Past_goBack (a : Nat) (i : Int) : Prop := a = 10 ∨ a = 11 ∨ a = 12 ∨ a = 13 ∨ a = 3 ∨ a = 4 ∨ a = 5 ∨ a = 6 ∨ a = 7 ∨ a = 8 ∨ a = 9 ∨ (a = 2 ∧ i = 11) ∨ (a = 2 ∧ i = 14) ∨ (a = 2 ∧ i = 15) ∨ (a = 2 ∧ i = 16) ∨ (a = 2 ∧ i = 17) ∨ (a = 2 ∧ i = 18) ∨ (a = 2 ∧ i = 19) ∨ (a = 2 ∧ i = 8) ∨ (a = 91 ∧ i = 1) ∨ (a = 91 ∧ i = 2)
theorem zP_back {g g3 g4 g7 : zi_M} (I : zk_I g) (c1 : 1 ≤ g 91 1) (e1 : g3 = zi_u g 91 2 (Int.tmod (((g 91 2) + 6) - 1) 6)) (e2 : g4 = zi_u g3 91 1 ((g3 91 1) - 1)) (F : zk_fr (fr_World_copyFrom 2 (93 + 12 * (g4 91 2).toNat)) g4 g7) (W : zWc 2 (93 + 12 * (g4 91 2).toNat) g4 g7) (h : zP g) : zP g7 ∧ zQk g g7 := by
  have b : (0 : Int) ≤ g 91 2 ∧ g 91 2 ≤ 5 := I.1 91 2
  have c : (0 : Int) ≤ g 91 1 ∧ g 91 1 ≤ 6 := I.1 91 1
  have u : ∀ (a : Nat) (i : Int), a ≠ 91 → g4 a i = g a i := fun a i q => by rw [e2, zi_u_ne q, e1, zi_u_ne q]
  have n2 : g4 91 2 = (g 91 2 + 5) % 6 := by
    rw [e2, zi_u_ni (by decide), e1, zi_u_eq, Int.tmod_eq_emod_of_nonneg (by omega)]
    congr 1
    omega
  have n1 : g4 91 1 = g 91 1 - 1 := by
    rw [e2, zi_u_eq, e1, zi_u_ni (by decide)]
  have f : ∀ (a : Nat) (i : Int), 14 ≤ a → g7 a i = g4 a i := fun a i q => F a i (fun w => by unfold fr_World_copyFrom at w; omega)
  have live := h (g4 91 2) (by omega) (by omega) (by omega)
  obtain ⟨⟨a1, a2⟩, b1, b2, b3⟩ := live
  obtain ⟨⟨w1, w2, -⟩, y1, y2, y3, -⟩ := W
  have k8 : g7 2 8 = g 2 8 := by rw [w1, u _ _ (by omega), a1]
  have k11 : g7 2 11 = g 2 11 := by rw [w2, u _ _ (by omega), a2]
  have k3 : ∀ i : Int, 0 ≤ i → i < 10 → g7 3 i = g 3 i := fun i i0 i1 => by
    have := y1 i i0 i1
    rw [u _ _ (by omega), b1 i i0 i1] at this
    exact this
  have k4 : ∀ i : Int, 0 ≤ i → i < 10 → g7 4 i = g 4 i := fun i i0 i1 => by
    have := y2 i i0 i1
    rw [u _ _ (by omega), b2 i i0 i1] at this
    exact this
  have k5 : ∀ i : Int, 0 ≤ i → i < 10 → g7 5 i = g 5 i := fun i i0 i1 => by
    have := y3 i i0 i1
    rw [u _ _ (by omega), b3 i i0 i1] at this
    exact this
  refine ⟨?_, ⟨k8, k11⟩, k3, k4, k5⟩
  intro i i0 i6 hl
  rw [f 91 2 (by decide), f 91 1 (by decide), n1, n2] at hl
  have old := h i i0 i6 (by omega)
  obtain ⟨⟨a1, a2⟩, b1, b2, b3⟩ := old
  refine ⟨⟨?_, ?_⟩, fun k k0 k1 => ?_, fun k k0 k1 => ?_, fun k k0 k1 => ?_⟩
  · rw [f _ _ (by omega), u _ _ (by omega), a1, k8]
  · rw [f _ _ (by omega), u _ _ (by omega), a2, k11]
  · rw [f _ _ (by omega), u _ _ (by omega), b1 k k0 k1, k3 k k0 k1]
  · rw [f _ _ (by omega), u _ _ (by omega), b2 k k0 k1, k4 k k0 k1]
  · rw [f _ _ (by omega), u _ _ (by omega), b3 k k0 k1, k5 k k0 k1]

set_option maxRecDepth 100000 in
set_option maxHeartbeats 4000000 in
theorem k_Past_goBack {g : zi_M} {Q : Int → zi_M → Prop} (I : zk_I g) (hQ : ∀ (v : Int) (g' : zi_M), zk_I g' → zk_fr fr_Past_goBack g g' → (0 ≤ v ∧ v ≤ 1) → (zP g → zP g' ∧ zQk g g') → Q v g') : w_Past_goBack g Q := by
  unfold w_Past_goBack
  have m_1 : 0 ≤ (g 91 1) ∧ (g 91 1) ≤ 6 := I.1 91 1
  refine ⟨⟨by omega, by omega⟩, ?_⟩
  refine ⟨fun c9 => ?_, fun c9 => ?_⟩
  · have m_2 : 0 ≤ (g 91 2) ∧ (g 91 2) ≤ 5 := I.1 91 2
    refine ⟨⟨by omega, by omega⟩, ?_⟩
    have m_6 := zi_tmod_f (((g 91 2) + 6) - 1) 6
    have m_7 := zi_tmod_c (((g 91 2) + 6) - 1) 6 (by decide)
    intro g3 e_3
    have I_4 : zk_I g3 := by rw [e_3]; exact zk_upd (L := 0) (H := 5) rfl rfl I ⟨by omega, by omega⟩
    have F_5 : zk_fr fr_Past_goBack g g3 := by rw [e_3]; exact zk_fu (zk_f0 _) (Or.inr (Or.inr (Or.inr (Or.inr (Or.inr (Or.inr (Or.inr (Or.inr (Or.inr (Or.inr (Or.inr (Or.inr (Or.inr (Or.inr (Or.inr (Or.inr (Or.inr (Or.inr (Or.inr (Or.inr ⟨rfl, rfl⟩))))))))))))))))))))
    have m_11 : 0 ≤ (g3 91 1) ∧ (g3 91 1) ≤ 6 := I_4.1 91 1
    have m_12 : g3 91 1 = g 91 1 := by rw [e_3]; exact zi_u_ni (by decide)
    intro g4 e_8
    have I_9 : zk_I g4 := by rw [e_8]; exact zk_upd (L := 0) (H := 6) rfl rfl I_4 ⟨by omega, by omega⟩
    have F_10 : zk_fr fr_Past_goBack g g4 := by rw [e_8]; exact zk_fu F_5 (Or.inr (Or.inr (Or.inr (Or.inr (Or.inr (Or.inr (Or.inr (Or.inr (Or.inr (Or.inr (Or.inr (Or.inr (Or.inr (Or.inr (Or.inr (Or.inr (Or.inr (Or.inr (Or.inr (Or.inl ⟨rfl, rfl⟩))))))))))))))))))))
    have m_13 : 0 ≤ (g4 91 2) ∧ (g4 91 2) ≤ 5 := I_9.1 91 2
    have m_14 : g4 91 2 = g3 91 2 := by rw [e_8]; exact zi_u_ni (by decide)
    have m_15 : 0 ≤ (g3 91 2) ∧ (g3 91 2) ≤ 5 := I_4.1 91 2
    have m_16 : g3 91 2 = Int.tmod (((g 91 2) + 6) - 1) 6 := by rw [e_3]; exact zi_u_eq
    refine ⟨⟨by omega, by omega⟩, ?_⟩
    refine k_World_copyFrom rfl (zs_ring ⟨by omega, by omega⟩).2 I_9 (fun g7 I_18 F_19 b_17 => ?_)
    have F_20 : zk_fr fr_Past_goBack g g7 := zk_ft F_10 F_19 (fun a i => (fun h => Or.elim h (fun h => (Or.inr (Or.inr (Or.inr (Or.inr (Or.inl h)))))) (fun h => Or.elim h (fun h => (Or.inr (Or.inr (Or.inl h)))) (fun h => Or.elim h (fun h => (Or.inr (Or.inr (Or.inr (Or.inl h))))) (fun h => Or.elim h (fun h => (Or.inr (Or.inr (Or.inr (Or.inr (Or.inr (Or.inl h))))))) (fun h => Or.elim h (fun h => (Or.inr (Or.inr (Or.inr (Or.inr (Or.inr (Or.inr (Or.inl h)))))))) (fun h => Or.elim h (fun h => (Or.inr (Or.inr (Or.inr (Or.inr (Or.inr (Or.inr (Or.inr (Or.inl h))))))))) (fun h => Or.elim h (fun h => (Or.inr (Or.inr (Or.inr (Or.inr (Or.inr (Or.inr (Or.inr (Or.inr (Or.inl h)))))))))) (fun h => Or.elim h (fun h => (Or.inr (Or.inr (Or.inr (Or.inr (Or.inr (Or.inr (Or.inr (Or.inr (Or.inr (Or.inl h))))))))))) (fun h => Or.elim h (fun h => (Or.inr (Or.inr (Or.inr (Or.inr (Or.inr (Or.inr (Or.inr (Or.inr (Or.inr (Or.inr (Or.inl h)))))))))))) (fun h => Or.elim h (fun h => (Or.inl h)) (fun h => Or.elim h (fun h => (Or.inr (Or.inl h))) (fun h => Or.elim h (fun h => (Or.inr (Or.inr (Or.inr (Or.inr (Or.inr (Or.inr (Or.inr (Or.inr (Or.inr (Or.inr (Or.inr (Or.inl h))))))))))))) (fun h => Or.elim h (fun h => (Or.inr (Or.inr (Or.inr (Or.inr (Or.inr (Or.inr (Or.inr (Or.inr (Or.inr (Or.inr (Or.inr (Or.inr (Or.inl h)))))))))))))) (fun h => Or.elim h (fun h => (Or.inr (Or.inr (Or.inr (Or.inr (Or.inr (Or.inr (Or.inr (Or.inr (Or.inr (Or.inr (Or.inr (Or.inr (Or.inr (Or.inl h))))))))))))))) (fun h => Or.elim h (fun h => (Or.inr (Or.inr (Or.inr (Or.inr (Or.inr (Or.inr (Or.inr (Or.inr (Or.inr (Or.inr (Or.inr (Or.inr (Or.inr (Or.inr (Or.inl h)))))))))))))))) (fun h => Or.elim h (fun h => (Or.inr (Or.inr (Or.inr (Or.inr (Or.inr (Or.inr (Or.inr (Or.inr (Or.inr (Or.inr (Or.inr (Or.inr (Or.inr (Or.inr (Or.inr (Or.inl h))))))))))))))))) (fun h => Or.elim h (fun h => (Or.inr (Or.inr (Or.inr (Or.inr (Or.inr (Or.inr (Or.inr (Or.inr (Or.inr (Or.inr (Or.inr (Or.inr (Or.inr (Or.inr (Or.inr (Or.inr (Or.inl h)))))))))))))))))) (fun h => Or.elim h (fun h => (Or.inr (Or.inr (Or.inr (Or.inr (Or.inr (Or.inr (Or.inr (Or.inr (Or.inr (Or.inr (Or.inr (Or.inr (Or.inr (Or.inr (Or.inr (Or.inr (Or.inr (Or.inl h))))))))))))))))))) (fun h => (Or.inr (Or.inr (Or.inr (Or.inr (Or.inr (Or.inr (Or.inr (Or.inr (Or.inr (Or.inr (Or.inr (Or.inr (Or.inr (Or.inr (Or.inr (Or.inr (Or.inr (Or.inr (Or.inl h)))))))))))))))))))))))))))))))))))))))
    exact hQ _ _ I_18 F_20 ⟨by omega, by omega⟩ (by intro hz; first | exact ⟨hz, zQk_refl _⟩ | exact zP_back I (by assumption) (by assumption) (by assumption) (by assumption) (by assumption) hz)
  · exact hQ _ _ I (zk_f0 _) ⟨by omega, by omega⟩ (by intro hz; first | exact ⟨hz, zQk_refl _⟩ | exact zP_back I (by assumption) (by assumption) (by assumption) (by assumption) (by assumption) hz)
-- SpoutNews.undo()Z
noncomputable def fr_S_undo (a : Nat) (i : Int) : Prop := a = 10 ∨ a = 11 ∨ a = 12 ∨ a = 13 ∨ a = 3 ∨ a = 4 ∨ a = 5 ∨ a = 6 ∨ a = 7 ∨ a = 8 ∨ a = 9 ∨ (a = 2 ∧ i = 11) ∨ (a = 2 ∧ i = 14) ∨ (a = 2 ∧ i = 15) ∨ (a = 2 ∧ i = 16) ∨ (a = 2 ∧ i = 17) ∨ (a = 2 ∧ i = 18) ∨ (a = 2 ∧ i = 19) ∨ (a = 2 ∧ i = 8) ∨ (a = 91 ∧ i = 1) ∨ (a = 91 ∧ i = 2)
set_option maxRecDepth 100000 in
set_option maxHeartbeats 4000000 in
theorem k_S_undo {g : zi_M} {Q : Int → zi_M → Prop} (I : zk_I g) (hQ : ∀ (v : Int) (g' : zi_M), zk_I g' → zk_fr fr_S_undo g g' → (0 ≤ v ∧ v ≤ 1) → (zP g → zP g' ∧ zQk g g') → Q v g') : w_S_undo g Q := by
  unfold w_S_undo
  refine k_Past_goBack I (fun v1 g2 I_3 F_4 b_1 b_2 => ?_)
  have F_5 : zk_fr fr_S_undo g g2 := zk_ft (zk_f0 _) F_4 (fun a i => (fun h => Or.elim h (fun h => (Or.inl h)) (fun h => Or.elim h (fun h => (Or.inr (Or.inl h))) (fun h => Or.elim h (fun h => (Or.inr (Or.inr (Or.inl h)))) (fun h => Or.elim h (fun h => (Or.inr (Or.inr (Or.inr (Or.inl h))))) (fun h => Or.elim h (fun h => (Or.inr (Or.inr (Or.inr (Or.inr (Or.inl h)))))) (fun h => Or.elim h (fun h => (Or.inr (Or.inr (Or.inr (Or.inr (Or.inr (Or.inl h))))))) (fun h => Or.elim h (fun h => (Or.inr (Or.inr (Or.inr (Or.inr (Or.inr (Or.inr (Or.inl h)))))))) (fun h => Or.elim h (fun h => (Or.inr (Or.inr (Or.inr (Or.inr (Or.inr (Or.inr (Or.inr (Or.inl h))))))))) (fun h => Or.elim h (fun h => (Or.inr (Or.inr (Or.inr (Or.inr (Or.inr (Or.inr (Or.inr (Or.inr (Or.inl h)))))))))) (fun h => Or.elim h (fun h => (Or.inr (Or.inr (Or.inr (Or.inr (Or.inr (Or.inr (Or.inr (Or.inr (Or.inr (Or.inl h))))))))))) (fun h => Or.elim h (fun h => (Or.inr (Or.inr (Or.inr (Or.inr (Or.inr (Or.inr (Or.inr (Or.inr (Or.inr (Or.inr (Or.inl h)))))))))))) (fun h => Or.elim h (fun h => (Or.inr (Or.inr (Or.inr (Or.inr (Or.inr (Or.inr (Or.inr (Or.inr (Or.inr (Or.inr (Or.inr (Or.inl h))))))))))))) (fun h => Or.elim h (fun h => (Or.inr (Or.inr (Or.inr (Or.inr (Or.inr (Or.inr (Or.inr (Or.inr (Or.inr (Or.inr (Or.inr (Or.inr (Or.inl h)))))))))))))) (fun h => Or.elim h (fun h => (Or.inr (Or.inr (Or.inr (Or.inr (Or.inr (Or.inr (Or.inr (Or.inr (Or.inr (Or.inr (Or.inr (Or.inr (Or.inr (Or.inl h))))))))))))))) (fun h => Or.elim h (fun h => (Or.inr (Or.inr (Or.inr (Or.inr (Or.inr (Or.inr (Or.inr (Or.inr (Or.inr (Or.inr (Or.inr (Or.inr (Or.inr (Or.inr (Or.inl h)))))))))))))))) (fun h => Or.elim h (fun h => (Or.inr (Or.inr (Or.inr (Or.inr (Or.inr (Or.inr (Or.inr (Or.inr (Or.inr (Or.inr (Or.inr (Or.inr (Or.inr (Or.inr (Or.inr (Or.inl h))))))))))))))))) (fun h => Or.elim h (fun h => (Or.inr (Or.inr (Or.inr (Or.inr (Or.inr (Or.inr (Or.inr (Or.inr (Or.inr (Or.inr (Or.inr (Or.inr (Or.inr (Or.inr (Or.inr (Or.inr (Or.inl h)))))))))))))))))) (fun h => Or.elim h (fun h => (Or.inr (Or.inr (Or.inr (Or.inr (Or.inr (Or.inr (Or.inr (Or.inr (Or.inr (Or.inr (Or.inr (Or.inr (Or.inr (Or.inr (Or.inr (Or.inr (Or.inr (Or.inl h))))))))))))))))))) (fun h => Or.elim h (fun h => (Or.inr (Or.inr (Or.inr (Or.inr (Or.inr (Or.inr (Or.inr (Or.inr (Or.inr (Or.inr (Or.inr (Or.inr (Or.inr (Or.inr (Or.inr (Or.inr (Or.inr (Or.inr (Or.inl h)))))))))))))))))))) (fun h => Or.elim h (fun h => (Or.inr (Or.inr (Or.inr (Or.inr (Or.inr (Or.inr (Or.inr (Or.inr (Or.inr (Or.inr (Or.inr (Or.inr (Or.inr (Or.inr (Or.inr (Or.inr (Or.inr (Or.inr (Or.inr (Or.inl h))))))))))))))))))))) (fun h => (Or.inr (Or.inr (Or.inr (Or.inr (Or.inr (Or.inr (Or.inr (Or.inr (Or.inr (Or.inr (Or.inr (Or.inr (Or.inr (Or.inr (Or.inr (Or.inr (Or.inr (Or.inr (Or.inr (Or.inr h))))))))))))))))))))))))))))))))))))))))))
  exact hQ _ _ I_3 F_5 ⟨by omega, by omega⟩ (by assumption)
-- SpoutNewsModel.undo()Z
noncomputable def fr_M_undo (a : Nat) (i : Int) : Prop := a = 215 ∨ (a = 214 ∧ i = 0) ∨ (a = 214 ∧ i = 3)
set_option maxRecDepth 100000 in
set_option maxHeartbeats 4000000 in
theorem k_M_undo_l26 {K60 : zi_M → Prop} {Q : Int → zi_M → Prop} {g0 : zi_M} (hK60 : ∀ (g : zi_M), zk_I g → zk_fr fr_M_undo g0 g → K60 g) (hQ : ∀ (v : Int) (g' : zi_M), zk_I g' → zk_fr fr_M_undo g0 g' → (0 ≤ v ∧ v ≤ 1) → Q v g') : ∀ (n : Nat) {l1 : Int} {g : zi_M}, zk_I g → zk_fr fr_M_undo g0 g → (0 ≤ l1 ∧ l1 ≤ 264) → (g 214 3 ≤ 5) → 264 - l1 < (n : Int) → w_M_undo_l26 K60 Q n l1 g
  | 0, l1, g, I, F, b0, b1, hm => by exfalso; omega
  | n + 1, l1, g, I, F, b0, b1, hm => by
    unfold w_M_undo_l26
    refine ⟨⟨by omega, by omega⟩, ?_⟩
    refine ⟨fun c8 => ?_, fun c8 => ?_⟩
    · exact hK60 _ I F
    · have m_10 : 0 ≤ (g 214 3) ∧ (g 214 3) ≤ 6 := I.1 214 3
      refine ⟨⟨by omega, by omega⟩, ?_⟩
      refine ⟨⟨by omega, by omega⟩, ?_⟩
      have m_14 := zk_rng I 216 ((264 * (g 214 3)) + l1)
      intro g7 e_11
      have I_12 : zk_I g7 := by rw [e_11]; exact zk_row3 I (by omega) ⟨by omega, by omega⟩
      have F_13 : zk_fr fr_M_undo g0 g7 := by rw [e_11]; exact zk_fu F (Or.inl rfl)
      have m_15 : 0 ≤ (g7 214 3) ∧ (g7 214 3) ≤ 6 := I_12.1 214 3
      have m_16 : g7 214 3 = g 214 3 := by rw [e_11]; exact zi_u_ne (by decide)
      exact k_M_undo_l26 hK60 hQ n I_12 F_13 ⟨by omega, by omega⟩ (by omega) (by omega)
set_option maxRecDepth 100000 in
set_option maxHeartbeats 4000000 in
theorem k_M_undo {g : zi_M} {Q : Int → zi_M → Prop} (I : zk_I g) (hQ : ∀ (v : Int) (g' : zi_M), zk_I g' → zk_fr fr_M_undo g g' → (0 ≤ v ∧ v ≤ 1) → Q v g') : w_M_undo g Q := by
  unfold w_M_undo
  intro g1 e_1
  have I_2 : zk_I g1 := by rw [e_1]; exact zk_upd (L := (-2147483648)) (H := 2147483647) rfl rfl I ⟨by omega, by omega⟩
  have F_3 : zk_fr fr_M_undo g g1 := by rw [e_1]; exact zk_fu (zk_f0 _) (Or.inr (Or.inl ⟨rfl, rfl⟩))
  have m_4 : 0 ≤ (g1 214 3) ∧ (g1 214 3) ≤ 6 := I_2.1 214 3
  have m_5 : g1 214 3 = g 214 3 := by rw [e_1]; exact zi_u_ni (by decide)
  have m_6 : 0 ≤ (g 214 3) ∧ (g 214 3) ≤ 6 := I.1 214 3
  refine ⟨⟨by omega, by omega⟩, ?_⟩
  refine ⟨fun c11 => ?_, fun c11 => ?_⟩
  · intro g3 e_7
    have I_8 : zk_I g3 := by rw [e_7]; exact zk_upd (L := 0) (H := 6) rfl rfl I_2 ⟨by omega, by omega⟩
    have F_9 : zk_fr fr_M_undo g g3 := by rw [e_7]; exact zk_fu F_3 (Or.inr (Or.inr ⟨rfl, rfl⟩))
    have m_19 : 0 ≤ (g3 214 3) ∧ (g3 214 3) ≤ 6 := I_8.1 214 3
    have m_20 : g3 214 3 = (g1 214 3) - 1 := by rw [e_7]; exact zi_u_eq
    refine ⟨((264 - 0 : Int).toNat + 1), k_M_undo_l26 (fun g9 I_17 F_18 => ?_) hQ ((264 - 0 : Int).toNat + 1) I_8 F_9 ⟨by omega, by omega⟩ (by omega) (by omega)⟩
    exact hQ _ _ I_17 F_18 ⟨by omega, by omega⟩
  · exact hQ _ _ I_2 F_3 ⟨by omega, by omega⟩
