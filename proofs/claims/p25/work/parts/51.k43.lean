-- by program (wip/gen/mkz.py)
-- SpoutNews$Thought.centuries(LSpoutNews$World;I)I
set_option maxRecDepth 100000 in
set_option maxHeartbeats 4000000 in
theorem k_Thought_centuries_l26 {g : zi_M} (I : zk_I g) {l1 : Int} {x3 : Int} {K60 : Int → zi_M → Prop} {Q : Int → zi_M → Prop} (q1 : 1 ≤ l1 ∧ l1 ≤ 99) (hK60 : ∀ (k5 : Int), (0 ≤ k5 ∧ k5 ≤ 99) → (k5 = zlv (g 5 x3) l1) → K60 k5 g) (hQ : ∀ v : Int, (0 ≤ v ∧ v ≤ 99) → (v = zmx (g 5) l1 (g 2 8).toNat) → Q v g) : ∀ (n : Nat) {l4 : Int} {l5 : Int} {l6 : Int}, (0 ≤ l4 ∧ l4 ≤ 108) → (0 ≤ l5 ∧ l5 ≤ 99) → (0 ≤ l6 ∧ l6 ≤ 99) → (l5 ≤ l6) → (l6 ≤ l4) → (l5 + zlv l4 l1 = zlv (g 5 x3) l1) → 99 - l5 < (n : Int) → w_Thought_centuries_l26 l1 K60 Q n l4 l5 l6 g
  | 0, l4, l5, l6, b0, b1, b2, b3, b4, b5, hm => by exfalso; omega
  | n + 1, l4, l5, l6, b0, b1, b2, b3, b4, b5, hm => by
    unfold w_Thought_centuries_l26
    refine ⟨⟨by omega, by omega⟩, ?_⟩
    refine ⟨fun c8 => ?_, fun c8 => ?_⟩
    · have m_2 : 0 ≤ (g 5 x3) ∧ (g 5 x3) ≤ 99 := I.1 5 x3
      exact hK60 _ ⟨by omega, by omega⟩ (by exact zlv_x (by assumption) (by omega))
    · refine ⟨⟨by omega, by omega⟩, ⟨by omega, by omega⟩, ?_⟩
      refine ⟨fun c7 => ?_, fun c7 => ?_⟩
      · have m_3 : 0 ≤ (g 5 x3) ∧ (g 5 x3) ≤ 99 := I.1 5 x3
        exact hK60 _ ⟨by omega, by omega⟩ (by exact zlv_x (by assumption) (by omega))
      · have m_4 := zi_tdiv_f l4 10
        have m_5 := zi_tdiv_c l4 10 (by decide)
        have m_6 : 0 ≤ (g 5 x3) ∧ (g 5 x3) ≤ 99 := I.1 5 x3
        exact k_Thought_centuries_l26 I q1 hK60 hQ n ⟨by omega, by omega⟩ ⟨by omega, by omega⟩ ⟨by omega, by omega⟩ (by omega) (by omega) (by first | exact zlv_0 | exact zlv_st (by assumption) (by omega) (by omega) ⟨by omega, by omega⟩) (by omega)
set_option maxRecDepth 100000 in
set_option maxHeartbeats 4000000 in
theorem k_Thought_centuries_l4 {g : zi_M} (I : zk_I g) {l1 : Int} {K73 : Int → zi_M → Prop} {Q : Int → zi_M → Prop} (q1 : 1 ≤ l1 ∧ l1 ≤ 99) (hK73 : ∀ (k2 : Int), (0 ≤ k2 ∧ k2 ≤ 99) → (k2 = zmx (g 5) l1 (g 2 8).toNat) → K73 k2 g) (hQ : ∀ v : Int, (0 ≤ v ∧ v ≤ 99) → (v = zmx (g 5) l1 (g 2 8).toNat) → Q v g) : ∀ (n : Nat) {l2 : Int} {l3 : Int}, (0 ≤ l2 ∧ l2 ≤ 99) → (0 ≤ l3 ∧ l3 ≤ 10) → (l3 ≤ g 2 8) → (l2 = zmx (g 5) l1 l3.toNat) → 10 - l3 < (n : Int) → w_Thought_centuries_l4 l1 K73 Q n l2 l3 g
  | 0, l2, l3, b0, b1, b2, b3, hm => by exfalso; omega
  | n + 1, l2, l3, b0, b1, b2, b3, hm => by
    unfold w_Thought_centuries_l4
    have m_1 : 0 ≤ (g 2 8) ∧ (g 2 8) ≤ 10 := I.1 2 8
    refine ⟨⟨by omega, by omega⟩, ⟨by omega, by omega⟩, ?_⟩
    refine ⟨fun c14 => ?_, fun c14 => ?_⟩
    · exact hK73 _ ⟨by omega, by omega⟩ (by rw [show g 2 8 = l3 by omega]; assumption)
    · refine ⟨⟨by omega, by omega⟩, ?_⟩
      have m_9 : 0 ≤ (g 5 l3) ∧ (g 5 l3) ≤ 99 := I.1 5 l3
      refine ⟨((99 - 0 : Int).toNat + 1), k_Thought_centuries_l26 (l1 := l1) (x3 := l3) I ⟨by omega, by omega⟩ (fun k9 b_7 b_8 => ?_) hQ ((99 - 0 : Int).toNat + 1) ⟨by omega, by omega⟩ ⟨by omega, by omega⟩ ⟨by omega, by omega⟩ (by omega) (by omega) (by first | exact zlv_0 | exact zlv_st (by assumption) (by omega) (by omega) ⟨by omega, by omega⟩) (by omega)⟩
      refine ⟨⟨by omega, by omega⟩, ⟨by omega, by omega⟩, ?_⟩
      exact k_Thought_centuries_l4 I q1 hK73 hQ n ⟨by omega, by omega⟩ ⟨by omega, by omega⟩ (by omega) (by first | rfl | exact zmx_w (by assumption) (by assumption) (by omega) (by omega) (by omega)) (by omega)
set_option maxRecDepth 100000 in
set_option maxHeartbeats 4000000 in
theorem k_Thought_centuries {l1 : Int} {g : zi_M} {Q : Int → zi_M → Prop} (I : zk_I g) (p1 : 1 ≤ l1 ∧ l1 ≤ 99) (hQ : ∀ v : Int, (0 ≤ v ∧ v ≤ 99) → (v = zmx (g 5) l1 (g 2 8).toNat) → Q v g) : w_Thought_centuries l1 g Q := by
  unfold w_Thought_centuries
  have m_12 : 0 ≤ (g 2 8) ∧ (g 2 8) ≤ 10 := I.1 2 8
  refine ⟨((10 - 0 : Int).toNat + 1), k_Thought_centuries_l4 (l1 := l1) I ⟨by omega, by omega⟩ (fun k15 b_10 b_11 => ?_) hQ ((10 - 0 : Int).toNat + 1) ⟨by omega, by omega⟩ ⟨by omega, by omega⟩ (by omega) (by first | rfl | exact zmx_w (by assumption) (by assumption) (by omega) (by omega) (by omega)) (by omega)⟩
  exact hQ _ ⟨by omega, by omega⟩ (by assumption)
-- SpoutNews.leans(I)I
set_option maxRecDepth 100000 in
set_option maxHeartbeats 4000000 in
theorem k_S_leans {l1 : Int} {g : zi_M} {Q : Int → zi_M → Prop} (I : zk_I g) (p1 : (-2147483648) ≤ l1 ∧ l1 ≤ 2147483647) (hQ : ∀ v : Int, ((-1) ≤ v ∧ v ≤ 99) → (1 ≤ l1 ∧ l1 ≤ 99 → v = zmx (g 5) l1 (g 2 8).toNat) → (¬ (1 ≤ l1 ∧ l1 ≤ 99) → v = -1) → Q v g) : w_S_leans l1 g Q := by
  unfold w_S_leans
  refine ⟨⟨by omega, by omega⟩, ?_⟩
  refine ⟨fun c6 => ?_, fun c6 => ?_⟩
  · exact hQ _ ⟨by omega, by omega⟩ (by intro hv; first | assumption | (exfalso; omega)) (by omega)
  · refine ⟨fun c5 => ?_, fun c5 => ?_⟩
    · have m_1 : 0 ≤ (g 2 8) ∧ (g 2 8) ≤ 10 := I.1 2 8
      refine k_Thought_centuries I ⟨by omega, by omega⟩ (fun v2 b_2 b_3 => ?_)
      exact hQ _ ⟨by omega, by omega⟩ (by intro hv; first | assumption | (exfalso; omega)) (by omega)
    · exact hQ _ ⟨by omega, by omega⟩ (by intro hv; first | assumption | (exfalso; omega)) (by omega)
-- SpoutNewsModel.leansFrom(II)I
set_option maxRecDepth 100000 in
set_option maxHeartbeats 4000000 in
theorem k_M_leansFrom_l5 {l1 : Int} {g : zi_M} (I : zk_I g) {l2 : Int} {x1 : Int} {K30 : Int → zi_M → Prop} {Q : Int → zi_M → Prop} (q2 : 1 ≤ l2 ∧ l2 ≤ 99) (hK30 : ∀ (k3 : Int), (0 ≤ k3 ∧ k3 ≤ 120) → (k3 = zlv x1 l2) → K30 k3 g) (hQ : ∀ v : Int, (0 ≤ v ∧ v ≤ 120) → (v = zlv l1 l2) → Q v g) : ∀ (n : Nat) {l3 : Int} {l4 : Int}, (0 ≤ l3 ∧ l3 ≤ 120) → (0 ≤ l4 ∧ l4 ≤ 108) → (l3 ≤ l4) → (l3 + zlv l4 l2 = zlv x1 l2) → max (l2 - l4) 0 < (n : Int) → w_M_leansFrom_l5 l2 K30 Q n l3 l4 g
  | 0, l3, l4, b0, b1, b2, b3, hm => by exfalso; omega
  | n + 1, l3, l4, b0, b1, b2, b3, hm => by
    unfold w_M_leansFrom_l5
    refine ⟨⟨by omega, by omega⟩, ⟨by omega, by omega⟩, ?_⟩
    refine ⟨fun c3 => ?_, fun c3 => ?_⟩
    · exact hK30 _ ⟨by omega, by omega⟩ (by exact zlv_x (by assumption) (by omega))
    · have m_1 := zi_tdiv_f l4 10
      have m_2 := zi_tdiv_c l4 10 (by decide)
      exact k_M_leansFrom_l5 I q2 hK30 hQ n ⟨by omega, by omega⟩ ⟨by omega, by omega⟩ (by omega) (by first | exact zlv_0 | exact zlv_st (by assumption) (by omega) (by omega) ⟨by omega, by omega⟩) (by omega)
set_option maxRecDepth 100000 in
set_option maxHeartbeats 4000000 in
theorem k_M_leansFrom {l1 : Int} {l2 : Int} {g : zi_M} {Q : Int → zi_M → Prop} (I : zk_I g) (p1 : 0 ≤ l1 ∧ l1 ≤ 99) (p2 : 1 ≤ l2 ∧ l2 ≤ 99) (hQ : ∀ v : Int, (0 ≤ v ∧ v ≤ 120) → (v = zlv l1 l2) → Q v g) : w_M_leansFrom l1 l2 g Q := by
  unfold w_M_leansFrom
  refine ⟨((max (l2 - l1) 0 : Int).toNat + 1), k_M_leansFrom_l5 (l2 := l2) (x1 := l1) I ⟨by omega, by omega⟩ (fun k4 b_3 b_4 => ?_) hQ ((max (l2 - l1) 0 : Int).toNat + 1) ⟨by omega, by omega⟩ ⟨by omega, by omega⟩ (by omega) (by first | exact zlv_0 | exact zlv_st (by assumption) (by omega) (by omega) ⟨by omega, by omega⟩) (by omega)⟩
  exact hQ _ ⟨by omega, by omega⟩ (by assumption)
-- SpoutNewsModel.leans(I)I
set_option maxRecDepth 100000 in
set_option maxHeartbeats 4000000 in
theorem k_M_leans_l22 {l1 : Int} {K53 : Int → zi_M → Prop} {Q : Int → zi_M → Prop} {g0 : zi_M} (q1 : 1 ≤ l1 ∧ l1 ≤ 99) (hK53 : ∀ (k2 : Int) (g : zi_M), zk_I g → zk_fr fr_M_leans g0 g → (0 ≤ k2 ∧ k2 ≤ 120) → (k2 = zmx (g0 220) l1 (g0 214 6).toNat) → K53 k2 g) (hQ : ∀ (v : Int) (g' : zi_M), zk_I g' → zk_fr fr_M_leans g0 g' → ((-1) ≤ v ∧ v ≤ 120) → (1 ≤ l1 ∧ l1 ≤ 99 → v = zmx (g0 220) l1 (g0 214 6).toNat) → (¬ (1 ≤ l1 ∧ l1 ≤ 99) → v = -1) → Q v g') : ∀ (n : Nat) {l2 : Int} {l3 : Int} {g : zi_M}, zk_I g → zk_fr fr_M_leans g0 g → (0 ≤ l2 ∧ l2 ≤ 120) → (0 ≤ l3 ∧ l3 ≤ 10) → (l3 ≤ g 214 6) → (l2 = zmx (g0 220) l1 l3.toNat) → 10 - l3 < (n : Int) → w_M_leans_l22 l1 K53 Q n l2 l3 g
  | 0, l2, l3, g, I, F, b0, b1, b2, b3, hm => by exfalso; omega
  | n + 1, l2, l3, g, I, F, b0, b1, b2, b3, hm => by
    unfold w_M_leans_l22
    have m_7 : 0 ≤ (g 214 6) ∧ (g 214 6) ≤ 10 := I.1 214 6
    refine ⟨⟨by omega, by omega⟩, ⟨by omega, by omega⟩, ?_⟩
    refine ⟨fun c14 => ?_, fun c14 => ?_⟩
    · exact hK53 _ _ I F ⟨by omega, by omega⟩ (by have hf := F 214 6 (by unfold fr_M_leans; omega); rw [show g0 214 6 = l3 by omega]; assumption)
    · refine ⟨⟨by omega, by omega⟩, ?_⟩
      have m_8 : 0 ≤ (g 220 l3) ∧ (g 220 l3) ≤ 99 := I.1 220 l3
      refine k_M_leansFrom I ⟨by omega, by omega⟩ ⟨by omega, by omega⟩ (fun v8 b_9 b_10 => ?_)
      refine k_M_greater I ⟨by omega, by omega⟩ ⟨by omega, by omega⟩ (fun v11 b_11 b_12 => ?_)
      exact k_M_leans_l22 q1 hK53 hQ n I F ⟨by omega, by omega⟩ ⟨by omega, by omega⟩ (by omega) (by first | rfl | exact zmx_w (by assumption) (by rw [← F 220 l3 (by unfold fr_M_leans; omega)]) (by omega) (by omega) (by omega)) (by omega)
set_option maxRecDepth 100000 in
set_option maxHeartbeats 4000000 in
theorem k_M_leans {l1 : Int} {g : zi_M} {Q : Int → zi_M → Prop} (I : zk_I g) (p1 : (-2147483648) ≤ l1 ∧ l1 ≤ 2147483647) (hQ : ∀ (v : Int) (g' : zi_M), zk_I g' → zk_fr fr_M_leans g g' → ((-1) ≤ v ∧ v ≤ 120) → (1 ≤ l1 ∧ l1 ≤ 99 → v = zmx (g 220) l1 (g 214 6).toNat) → (¬ (1 ≤ l1 ∧ l1 ≤ 99) → v = -1) → Q v g') : w_M_leans l1 g Q := by
  unfold w_M_leans
  intro g1 e_1
  have I_2 : zk_I g1 := by rw [e_1]; exact zk_upd (L := (-2147483648)) (H := 2147483647) rfl rfl I ⟨by omega, by omega⟩
  have F_3 : zk_fr fr_M_leans g g1 := by rw [e_1]; exact zk_fu (zk_f0 _) ⟨rfl, rfl⟩
  refine k_M_isIn I_2 ⟨by omega, by omega⟩ ⟨by omega, by omega⟩ ⟨by omega, by omega⟩ (fun v2 b_4 b_5 b_6 => ?_)
  refine ⟨fun c18 => ?_, fun c18 => ?_⟩
  · have m_17 : 0 ≤ (g1 214 6) ∧ (g1 214 6) ≤ 10 := I_2.1 214 6
    have m_18 : g1 214 6 = g 214 6 := by rw [e_1]; exact zi_u_ni (by decide)
    have m_19 : 0 ≤ (g 214 6) ∧ (g 214 6) ≤ 10 := I.1 214 6
    refine ⟨((10 - 0 : Int).toNat + 1), k_M_leans_l22 (l1 := l1) ⟨by omega, by omega⟩ (fun k15 g16 I_13 F_14 b_15 b_16 => ?_) hQ ((10 - 0 : Int).toNat + 1) I_2 F_3 ⟨by omega, by omega⟩ ⟨by omega, by omega⟩ (by omega) (by first | rfl | exact zmx_w (by assumption) (by rw [← F 220 l3 (by unfold fr_M_leans; omega)]) (by omega) (by omega) (by omega)) (by omega)⟩
    exact hQ _ _ I_13 F_14 ⟨by omega, by omega⟩ (by intro hv; first | assumption | (exfalso; omega)) (by omega)
  · exact hQ _ _ I_2 F_3 ⟨by omega, by omega⟩ (by intro hv; first | assumption | (exfalso; omega)) (by omega)
-- SpoutNews.chapter(I)I
set_option maxRecDepth 100000 in
set_option maxHeartbeats 4000000 in
theorem k_S_chapter {l1 : Int} {g : zi_M} {Q : Int → zi_M → Prop} (I : zk_I g) (p1 : (-2147483648) ≤ l1 ∧ l1 ≤ 2147483647) (hQ : ∀ (v : Int) (g' : zi_M), zk_I g' → zk_fr fr_S_chapter g g' → ((-1) ≤ v ∧ v ≤ 12) → (l1 = -1 → v = 0 ∧ g' 36 12 = 0) → (¬ l1 = -1 → 1 ≤ l1 ∧ l1 ≤ 60 ∧ g 36 12 < 12 → v = g 36 12 + 1 ∧ g' 36 12 = g 36 12 + 1) → (¬ l1 = -1 → ¬ (1 ≤ l1 ∧ l1 ≤ 60 ∧ g 36 12 < 12) → v = -1 ∧ g' 36 12 = g 36 12) → (∀ k : Int, 0 ≤ k ∧ k < 12 → (¬ v = -1 ∧ ¬ l1 = -1 ∧ k = g 36 12 → g' 45 k = l1) ∧ (¬ (¬ v = -1 ∧ ¬ l1 = -1 ∧ k = g 36 12) → g' 45 k = g 45 k)) → Q v g') : w_S_chapter l1 g Q := by
  unfold w_S_chapter
  refine ⟨⟨by omega, by omega⟩, ?_⟩
  refine ⟨fun c10 => ?_, fun c10 => ?_⟩
  · refine ⟨fun c8 => ?_, fun c8 => ?_⟩
    · have m_1 : 0 ≤ (g 36 12) ∧ (g 36 12) ≤ 12 := I.1 36 12
      have z_3 : ∀ k : Int, 0 ≤ k ∧ k < 12 → (¬ ((-1) : Int) = -1 ∧ ¬ l1 = -1 ∧ k = g 36 12 → g 45 k = l1) ∧ (¬ (¬ ((-1) : Int) = -1 ∧ ¬ l1 = -1 ∧ k = g 36 12) → g 45 k = g 45 k) := by
        intro k hk
        have m_2 : 0 ≤ (g 45 k) ∧ (g 45 k) ≤ 60 := I.1 45 k
        omega
      exact hQ _ _ I (zk_f0 _) ⟨by omega, by omega⟩ (by omega) (by omega) (by omega) z_3
    · refine ⟨fun c7 => ?_, fun c7 => ?_⟩
      · have m_4 : 0 ≤ (g 36 12) ∧ (g 36 12) ≤ 12 := I.1 36 12
        have z_6 : ∀ k : Int, 0 ≤ k ∧ k < 12 → (¬ ((-1) : Int) = -1 ∧ ¬ l1 = -1 ∧ k = g 36 12 → g 45 k = l1) ∧ (¬ (¬ ((-1) : Int) = -1 ∧ ¬ l1 = -1 ∧ k = g 36 12) → g 45 k = g 45 k) := by
          intro k hk
          have m_5 : 0 ≤ (g 45 k) ∧ (g 45 k) ≤ 60 := I.1 45 k
          omega
        exact hQ _ _ I (zk_f0 _) ⟨by omega, by omega⟩ (by omega) (by omega) (by omega) z_6
      · have m_7 : 0 ≤ (g 36 12) ∧ (g 36 12) ≤ 12 := I.1 36 12
        refine ⟨⟨by omega, by omega⟩, ?_⟩
        refine ⟨fun c6 => ?_, fun c6 => ?_⟩
        · refine ⟨⟨by omega, by omega⟩, ?_⟩
          intro g4 e_8
          have I_9 : zk_I g4 := by rw [e_8]; exact zk_upd (L := 0) (H := 60) rfl rfl I ⟨by omega, by omega⟩
          have F_10 : zk_fr fr_S_chapter g g4 := by rw [e_8]; exact zk_fu (zk_f0 _) (Or.inl rfl)
          have m_14 : 0 ≤ (g4 36 12) ∧ (g4 36 12) ≤ 12 := I_9.1 36 12
          have m_15 : g4 36 12 = g 36 12 := by rw [e_8]; exact zi_u_ne (by decide)
          intro g5 e_11
          have I_12 : zk_I g5 := by rw [e_11]; exact zk_upd (L := 0) (H := 12) rfl rfl I_9 ⟨by omega, by omega⟩
          have F_13 : zk_fr fr_S_chapter g g5 := by rw [e_11]; exact zk_fu F_10 (Or.inr ⟨rfl, rfl⟩)
          have m_16 : 0 ≤ (g5 36 12) ∧ (g5 36 12) ≤ 12 := I_12.1 36 12
          have m_17 : g5 36 12 = (g4 36 12) + 1 := by rw [e_11]; exact zi_u_eq
          have z_23 : ∀ k : Int, 0 ≤ k ∧ k < 12 → (¬ (g5 36 12 : Int) = -1 ∧ ¬ l1 = -1 ∧ k = g 36 12 → g5 45 k = l1) ∧ (¬ (¬ (g5 36 12 : Int) = -1 ∧ ¬ l1 = -1 ∧ k = g 36 12) → g5 45 k = g 45 k) := by
            intro k hk
            have m_18 : 0 ≤ (g5 45 k) ∧ (g5 45 k) ≤ 60 := I_12.1 45 k
            have m_19 : g5 45 k = g4 45 k := by rw [e_11]; exact zi_u_ne (by decide)
            have m_20 : 0 ≤ (g4 45 k) ∧ (g4 45 k) ≤ 60 := I_9.1 45 k
            have m_21 : 0 ≤ (g 45 k) ∧ (g 45 k) ≤ 60 := I.1 45 k
            have m_22 : (k = g 36 12 → g4 45 k = l1) ∧ (¬ k = g 36 12 → g4 45 k = g 45 k) := by rw [e_8]; exact zi_u_if
            omega
          exact hQ _ _ I_12 F_13 ⟨by omega, by omega⟩ (by omega) (by omega) (by omega) z_23
        · have z_25 : ∀ k : Int, 0 ≤ k ∧ k < 12 → (¬ ((-1) : Int) = -1 ∧ ¬ l1 = -1 ∧ k = g 36 12 → g 45 k = l1) ∧ (¬ (¬ ((-1) : Int) = -1 ∧ ¬ l1 = -1 ∧ k = g 36 12) → g 45 k = g 45 k) := by
            intro k hk
            have m_24 : 0 ≤ (g 45 k) ∧ (g 45 k) ≤ 60 := I.1 45 k
            omega
          exact hQ _ _ I (zk_f0 _) ⟨by omega, by omega⟩ (by omega) (by omega) (by omega) z_25
  · intro g9 e_26
    have I_27 : zk_I g9 := by rw [e_26]; exact zk_upd (L := 0) (H := 12) rfl rfl I ⟨by omega, by omega⟩
    have F_28 : zk_fr fr_S_chapter g g9 := by rw [e_26]; exact zk_fu (zk_f0 _) (Or.inr ⟨rfl, rfl⟩)
    have m_29 : 0 ≤ (g9 36 12) ∧ (g9 36 12) ≤ 12 := I_27.1 36 12
    have m_30 : g9 36 12 = 0 := by rw [e_26]; exact zi_u_eq
    have z_34 : ∀ k : Int, 0 ≤ k ∧ k < 12 → (¬ (0 : Int) = -1 ∧ ¬ l1 = -1 ∧ k = g 36 12 → g9 45 k = l1) ∧ (¬ (¬ (0 : Int) = -1 ∧ ¬ l1 = -1 ∧ k = g 36 12) → g9 45 k = g 45 k) := by
      intro k hk
      have m_31 : 0 ≤ (g9 45 k) ∧ (g9 45 k) ≤ 60 := I_27.1 45 k
      have m_32 : g9 45 k = g 45 k := by rw [e_26]; exact zi_u_ne (by decide)
      have m_33 : 0 ≤ (g 45 k) ∧ (g 45 k) ≤ 60 := I.1 45 k
      omega
    exact hQ _ _ I_27 F_28 ⟨by omega, by omega⟩ (by omega) (by omega) (by omega) z_34
-- SpoutNewsModel.chapter(I)I
set_option maxRecDepth 100000 in
set_option maxHeartbeats 4000000 in
theorem k_M_chapter {l1 : Int} {g : zi_M} {Q : Int → zi_M → Prop} (I : zk_I g) (p1 : (-2147483648) ≤ l1 ∧ l1 ≤ 2147483647) (hQ : ∀ (v : Int) (g' : zi_M), zk_I g' → zk_fr fr_M_chapter g g' → ((-1) ≤ v ∧ v ≤ 12) → (l1 = -1 → v = 0 ∧ g' 214 58 = 0) → (¬ l1 = -1 → 1 ≤ l1 ∧ l1 ≤ 60 ∧ g 214 58 < 12 → v = g 214 58 + 1 ∧ g' 214 58 = g 214 58 + 1) → (¬ l1 = -1 → ¬ (1 ≤ l1 ∧ l1 ≤ 60 ∧ g 214 58 < 12) → v = -1 ∧ g' 214 58 = g 214 58) → (∀ k : Int, 0 ≤ k ∧ k < 12 → (¬ v = -1 ∧ ¬ l1 = -1 ∧ k = g 214 58 → g' 248 k = l1) ∧ (¬ (¬ v = -1 ∧ ¬ l1 = -1 ∧ k = g 214 58) → g' 248 k = g 248 k)) → Q v g') : w_M_chapter l1 g Q := by
  unfold w_M_chapter
  intro g1 e_1
  have I_2 : zk_I g1 := by rw [e_1]; exact zk_upd (L := (-2147483648)) (H := 2147483647) rfl rfl I ⟨by omega, by omega⟩
  have F_3 : zk_fr fr_M_chapter g g1 := by rw [e_1]; exact zk_fu (zk_f0 _) (Or.inr (Or.inl ⟨rfl, rfl⟩))
  refine ⟨⟨by omega, by omega⟩, ?_⟩
  refine ⟨fun c13 => ?_, fun c13 => ?_⟩
  · refine k_M_isIn I_2 ⟨by omega, by omega⟩ ⟨by omega, by omega⟩ ⟨by omega, by omega⟩ (fun v3 b_4 b_5 b_6 => ?_)
    refine ⟨fun c11 => ?_, fun c11 => ?_⟩
    · have m_7 : 0 ≤ (g1 214 58) ∧ (g1 214 58) ≤ 12 := I_2.1 214 58
      have m_8 : g1 214 58 = g 214 58 := by rw [e_1]; exact zi_u_ni (by decide)
      have m_9 : 0 ≤ (g 214 58) ∧ (g 214 58) ≤ 12 := I.1 214 58
      have z_13 : ∀ k : Int, 0 ≤ k ∧ k < 12 → (¬ ((-1) : Int) = -1 ∧ ¬ l1 = -1 ∧ k = g 214 58 → g1 248 k = l1) ∧ (¬ (¬ ((-1) : Int) = -1 ∧ ¬ l1 = -1 ∧ k = g 214 58) → g1 248 k = g 248 k) := by
        intro k hk
        have m_10 : 0 ≤ (g1 248 k) ∧ (g1 248 k) ≤ 60 := I_2.1 248 k
        have m_11 : g1 248 k = g 248 k := by rw [e_1]; exact zi_u_ne (by decide)
        have m_12 : 0 ≤ (g 248 k) ∧ (g 248 k) ≤ 60 := I.1 248 k
        omega
      exact hQ _ _ I_2 F_3 ⟨by omega, by omega⟩ (by omega) (by omega) (by omega) z_13
    · have m_14 : 0 ≤ (g1 214 58) ∧ (g1 214 58) ≤ 12 := I_2.1 214 58
      have m_15 : g1 214 58 = g 214 58 := by rw [e_1]; exact zi_u_ni (by decide)
      have m_16 : 0 ≤ (g 214 58) ∧ (g 214 58) ≤ 12 := I.1 214 58
      refine ⟨⟨by omega, by omega⟩, ?_⟩
      refine ⟨fun c10 => ?_, fun c10 => ?_⟩
      · refine ⟨⟨by omega, by omega⟩, ?_⟩
        intro g8 e_17
        have I_18 : zk_I g8 := by rw [e_17]; exact zk_upd (L := 0) (H := 60) rfl rfl I_2 ⟨by omega, by omega⟩
        have F_19 : zk_fr fr_M_chapter g g8 := by rw [e_17]; exact zk_fu F_3 (Or.inl rfl)
        have m_23 : 0 ≤ (g8 214 58) ∧ (g8 214 58) ≤ 12 := I_18.1 214 58
        have m_24 : g8 214 58 = g1 214 58 := by rw [e_17]; exact zi_u_ne (by decide)
        intro g9 e_20
        have I_21 : zk_I g9 := by rw [e_20]; exact zk_upd (L := 0) (H := 12) rfl rfl I_18 ⟨by omega, by omega⟩
        have F_22 : zk_fr fr_M_chapter g g9 := by rw [e_20]; exact zk_fu F_19 (Or.inr (Or.inr ⟨rfl, rfl⟩))
        have m_25 : 0 ≤ (g9 214 58) ∧ (g9 214 58) ≤ 12 := I_21.1 214 58
        have m_26 : g9 214 58 = (g8 214 58) + 1 := by rw [e_20]; exact zi_u_eq
        have z_34 : ∀ k : Int, 0 ≤ k ∧ k < 12 → (¬ (g9 214 58 : Int) = -1 ∧ ¬ l1 = -1 ∧ k = g 214 58 → g9 248 k = l1) ∧ (¬ (¬ (g9 214 58 : Int) = -1 ∧ ¬ l1 = -1 ∧ k = g 214 58) → g9 248 k = g 248 k) := by
          intro k hk
          have m_27 : 0 ≤ (g9 248 k) ∧ (g9 248 k) ≤ 60 := I_21.1 248 k
          have m_28 : g9 248 k = g8 248 k := by rw [e_20]; exact zi_u_ne (by decide)
          have m_29 : 0 ≤ (g8 248 k) ∧ (g8 248 k) ≤ 60 := I_18.1 248 k
          have m_30 : 0 ≤ (g1 248 k) ∧ (g1 248 k) ≤ 60 := I_2.1 248 k
          have m_31 : g1 248 k = g 248 k := by rw [e_1]; exact zi_u_ne (by decide)
          have m_32 : 0 ≤ (g 248 k) ∧ (g 248 k) ≤ 60 := I.1 248 k
          have m_33 : (k = g1 214 58 → g8 248 k = l1) ∧ (¬ k = g1 214 58 → g8 248 k = g1 248 k) := by rw [e_17]; exact zi_u_if
          omega
        exact hQ _ _ I_21 F_22 ⟨by omega, by omega⟩ (by omega) (by omega) (by omega) z_34
      · have z_38 : ∀ k : Int, 0 ≤ k ∧ k < 12 → (¬ ((-1) : Int) = -1 ∧ ¬ l1 = -1 ∧ k = g 214 58 → g1 248 k = l1) ∧ (¬ (¬ ((-1) : Int) = -1 ∧ ¬ l1 = -1 ∧ k = g 214 58) → g1 248 k = g 248 k) := by
          intro k hk
          have m_35 : 0 ≤ (g1 248 k) ∧ (g1 248 k) ≤ 60 := I_2.1 248 k
          have m_36 : g1 248 k = g 248 k := by rw [e_1]; exact zi_u_ne (by decide)
          have m_37 : 0 ≤ (g 248 k) ∧ (g 248 k) ≤ 60 := I.1 248 k
          omega
        exact hQ _ _ I_2 F_3 ⟨by omega, by omega⟩ (by omega) (by omega) (by omega) z_38
  · intro g12 e_39
    have I_40 : zk_I g12 := by rw [e_39]; exact zk_upd (L := 0) (H := 12) rfl rfl I_2 ⟨by omega, by omega⟩
    have F_41 : zk_fr fr_M_chapter g g12 := by rw [e_39]; exact zk_fu F_3 (Or.inr (Or.inr ⟨rfl, rfl⟩))
    have m_42 : 0 ≤ (g12 214 58) ∧ (g12 214 58) ≤ 12 := I_40.1 214 58
    have m_43 : g12 214 58 = 0 := by rw [e_39]; exact zi_u_eq
    have z_49 : ∀ k : Int, 0 ≤ k ∧ k < 12 → (¬ (0 : Int) = -1 ∧ ¬ l1 = -1 ∧ k = g 214 58 → g12 248 k = l1) ∧ (¬ (¬ (0 : Int) = -1 ∧ ¬ l1 = -1 ∧ k = g 214 58) → g12 248 k = g 248 k) := by
      intro k hk
      have m_44 : 0 ≤ (g12 248 k) ∧ (g12 248 k) ≤ 60 := I_40.1 248 k
      have m_45 : g12 248 k = g1 248 k := by rw [e_39]; exact zi_u_ne (by decide)
      have m_46 : 0 ≤ (g1 248 k) ∧ (g1 248 k) ≤ 60 := I_2.1 248 k
      have m_47 : g1 248 k = g 248 k := by rw [e_1]; exact zi_u_ne (by decide)
      have m_48 : 0 ≤ (g 248 k) ∧ (g 248 k) ≤ 60 := I.1 248 k
      omega
    exact hQ _ _ I_40 F_41 ⟨by omega, by omega⟩ (by omega) (by omega) (by omega) z_49
-- SpoutNews$Thought.storm(II)I
set_option maxRecDepth 100000 in
set_option maxHeartbeats 4000000 in
theorem k_Thought_storm {l0 : Int} {l1 : Int} {g : zi_M} {Q : Int → zi_M → Prop} (I : zk_I g) (p0 : 1 ≤ l0 ∧ l0 ≤ 6) (p1 : 0 ≤ l1) (hQ : ∀ v : Int, (v = (l0 * 13) + l1) → Q v g) : w_Thought_storm l0 l1 g Q := by
  unfold w_Thought_storm
  exact hQ _ (by intros; omega)
-- SpoutNews$Told.minutes(II)I
set_option maxRecDepth 100000 in
set_option maxHeartbeats 4000000 in
theorem k_Told_minutes_l5 {l1 : Int} {g : zi_M} (I : zk_I g) {l2 : Int} {x1 : Int} {K36 : Int → zi_M → Prop} {Q : Int → zi_M → Prop} (q2 : 0 ≤ l2 ∧ l2 ≤ 12) (hK36 : ∀ (k3 : Int), (0 ≤ k3 ∧ k3 ≤ 720) → (l2 ≤ g 36 12 → k3 = zSm (g 45) x1 l2) → K36 k3 g) (hQ : ∀ v : Int, (0 ≤ v ∧ v ≤ 720) → (l2 ≤ g 36 12 → v = zSm (g 45) l1 l2) → Q v g) : ∀ (n : Nat) {l3 : Int} {l4 : Int}, (0 ≤ l3 ∧ l3 ≤ 720) → (0 ≤ l4 ∧ l4 ≤ 12) → (l3 ≤ 60 * l4) → (x1 ≤ l4) → (l4 ≤ l2 ∨ l4 = x1) → (l3 = zSm (g 45) x1 l4) → 12 - l4 < (n : Int) → w_Told_minutes_l5 l2 K36 Q n l3 l4 g
  | 0, l3, l4, b0, b1, b2, b3, b4, b5, hm => by exfalso; omega
  | n + 1, l3, l4, b0, b1, b2, b3, b4, b5, hm => by
    unfold w_Told_minutes_l5
    refine ⟨⟨by omega, by omega⟩, ⟨by omega, by omega⟩, ?_⟩
    refine ⟨fun c6 => ?_, fun c6 => ?_⟩
    · have m_1 : 0 ≤ (g 36 12) ∧ (g 36 12) ≤ 12 := I.1 36 12
      exact hK36 _ ⟨by omega, by omega⟩ (by intro hv; first | exact zSm_x (by assumption) (by omega) (by omega) (by omega) | (exfalso; omega))
    · have m_2 : 0 ≤ (g 36 12) ∧ (g 36 12) ≤ 12 := I.1 36 12
      refine ⟨⟨by omega, by omega⟩, ?_⟩
      refine ⟨fun c5 => ?_, fun c5 => ?_⟩
      · exact hK36 _ ⟨by omega, by omega⟩ (by intro hv; first | exact zSm_x (by assumption) (by omega) (by omega) (by omega) | (exfalso; omega))
      · refine ⟨⟨by omega, by omega⟩, ?_⟩
        have m_3 : 0 ≤ (g 45 l4) ∧ (g 45 l4) ≤ 60 := I.1 45 l4
        exact k_Told_minutes_l5 I q2 hK36 hQ n ⟨by omega, by omega⟩ ⟨by omega, by omega⟩ (by omega) (by omega) (by omega) (by first | exact (zSm_0 (Int.le_refl _)).symm | exact zSm_st (by assumption) (by omega)) (by omega)
set_option maxRecDepth 100000 in
set_option maxHeartbeats 4000000 in
theorem k_Told_minutes {l1 : Int} {l2 : Int} {g : zi_M} {Q : Int → zi_M → Prop} (I : zk_I g) (p1 : 0 ≤ l1 ∧ l1 ≤ 12) (p2 : 0 ≤ l2 ∧ l2 ≤ 12) (hQ : ∀ v : Int, (0 ≤ v ∧ v ≤ 720) → (l2 ≤ g 36 12 → v = zSm (g 45) l1 l2) → Q v g) : w_Told_minutes l1 l2 g Q := by
  unfold w_Told_minutes
  refine ⟨((12 - l1 : Int).toNat + 1), k_Told_minutes_l5 (l2 := l2) (x1 := l1) I ⟨by omega, by omega⟩ (fun k7 b_4 b_5 => ?_) hQ ((12 - l1 : Int).toNat + 1) ⟨by omega, by omega⟩ ⟨by omega, by omega⟩ (by omega) (by omega) (by omega) (by first | exact (zSm_0 (Int.le_refl _)).symm | exact zSm_st (by assumption) (by omega)) (by omega)⟩
  exact hQ _ ⟨by omega, by omega⟩ (by assumption)
-- SpoutNews$Thought.greatestSum(LSpoutNews$Told;III)I
set_option maxRecDepth 100000 in
set_option maxHeartbeats 4000000 in
theorem k_Thought_greatestSum {l2 : Int} {l3 : Int} {l4 : Int} {g : zi_M} {Q : Int → zi_M → Prop} (I : zk_I g) (p2 : 2 ≤ l2 ∧ l2 ≤ 6) (p3 : 0 ≤ l3 ∧ l3 ≤ 12) (p4 : 1 ≤ l4 ∧ l4 ≤ 11) (hQ : ∀ v : Int, (0 ≤ v ∧ v ≤ 720) → (l4 ≤ g 36 12 → v = max (zSm (g 45) l3 l4) (g 189 ((l2 - 1) * 13 + l4))) → Q v g) : w_Thought_greatestSum l2 l3 l4 g Q := by
  unfold w_Thought_greatestSum
  have m_1 : 0 ≤ (g 36 12) ∧ (g 36 12) ≤ 12 := I.1 36 12
  refine k_Told_minutes I ⟨by omega, by omega⟩ ⟨by omega, by omega⟩ (fun v1 b_2 b_3 => ?_)
  refine k_Thought_storm I ⟨by omega, by omega⟩ (by omega) (fun v4 b_4 => ?_)
  refine ⟨⟨by omega, by omega⟩, ?_⟩
  have m_5 : 0 ≤ (g 189 v4) ∧ (g 189 v4) ≤ 720 := I.1 189 v4
  refine ⟨⟨by omega, by omega⟩, ⟨by omega, by omega⟩, ?_⟩
  exact hQ _ ⟨by omega, by omega⟩ (by exact zgs_l (by assumption) (by omega))
-- SpoutNews$Thought.readInStorms(LSpoutNews$Told;I)V
set_option maxRecDepth 100000 in
set_option maxHeartbeats 4000000 in
theorem k_Thought_readInStorms_l2 {l2 : Int} {K35 : zi_M → Prop} {Q : Int → zi_M → Prop} {g0 : zi_M} (hK35 : ∀ (g : zi_M), zk_I g → zk_fr fr_Thought_readInStorms g0 g → (zTb g 2 0) → K35 g) (hQ : ∀ g' : zi_M, zk_I g' → zk_fr fr_Thought_readInStorms g0 g' → (zTb g' (l2 + 1) 0) → Q 0 g') : ∀ (n : Nat) {l3 : Int} {g : zi_M}, zk_I g → zk_fr fr_Thought_readInStorms g0 g → (0 ≤ l3 ∧ l3 ≤ 13) → (zT1 g l3) → 13 - l3 < (n : Int) → w_Thought_readInStorms_l2 K35 Q n l3 g
  | 0, l3, g, I, F, b0, b1, hm => by exfalso; omega
  | n + 1, l3, g, I, F, b0, b1, hm => by
    unfold w_Thought_readInStorms_l2
    have m_1 : 0 ≤ (g 36 12) ∧ (g 36 12) ≤ 12 := I.1 36 12
    refine ⟨⟨by omega, by omega⟩, ⟨by omega, by omega⟩, ?_⟩
    refine ⟨fun c11 => ?_, fun c11 => ?_⟩
    · have m_2 : 0 ≤ (g 2 0) ∧ (g 2 0) ≤ 1 := I.1 2 0
      exact hK35 _ I F (by first | assumption | exact zT1_x (by assumption) (by assumption) (by omega))
    · refine k_Thought_storm I ⟨by omega, by omega⟩ (by omega) (fun v3 b_3 => ?_)
      refine k_Told_minutes I ⟨by omega, by omega⟩ ⟨by omega, by omega⟩ (fun v6 b_4 b_5 => ?_)
      refine ⟨⟨by omega, by omega⟩, ?_⟩
      intro g10 e_6
      have I_7 : zk_I g10 := by rw [e_6]; exact zk_upd (L := 0) (H := 720) rfl rfl I ⟨by omega, by omega⟩
      have F_8 : zk_fr fr_Thought_readInStorms g0 g10 := by rw [e_6]; exact zk_fu F rfl
      exact k_Thought_readInStorms_l2 hK35 hQ n I_7 F_8 ⟨by omega, by omega⟩ (by first | exact zT1_0 | exact zT1_st (by assumption) (by assumption) (by omega) (by assumption) (by omega)) (by omega)
set_option maxRecDepth 100000 in
set_option maxHeartbeats 4000000 in
theorem k_Thought_readInStorms_l73 {l2 : Int} {l3 : Int} {l4 : Int} {K109 : Int → zi_M → Prop} {Q : Int → zi_M → Prop} {g0 : zi_M} (q3 : 2 ≤ l3 ∧ l3 ≤ 6) (q4 : 0 ≤ l4 ∧ l4 ≤ 10) (hK109 : ∀ (k5 : Int) (g : zi_M), zk_I g → zk_fr fr_Thought_readInStorms g0 g → (0 ≤ k5 ∧ k5 ≤ 720) → (zTb g l3 l4) → (k5 = zDP (g 45) (g 36 12) l3.toNat l4) → K109 k5 g) (hQ : ∀ g' : zi_M, zk_I g' → zk_fr fr_Thought_readInStorms g0 g' → (zTb g' (l2 + 1) 0) → Q 0 g') : ∀ (n : Nat) {l5 : Int} {l6 : Int} {g : zi_M}, zk_I g → zk_fr fr_Thought_readInStorms g0 g → (0 ≤ l5 ∧ l5 ≤ 720) → (1 ≤ l6 ∧ l6 ≤ 12) → (l4 + 1 ≤ l6) → (l6 ≤ g 36 12 - l3 + 2) → (l4 ≤ g 36 12 - l3) → (zTb g l3 l4) → (l5 = zLb (g 45) (zDP (g 45) (g 36 12) (l3 - 1).toNat) l4 (zSm (g 45) 0 (g 36 12)) (l6 - l4 - 1).toNat) → 12 - l6 < (n : Int) → w_Thought_readInStorms_l73 l3 l4 K109 Q n l5 l6 g
  | 0, l5, l6, g, I, F, b0, b1, b2, b3, b4, b5, b6, hm => by exfalso; omega
  | n + 1, l5, l6, g, I, F, b0, b1, b2, b3, b4, b5, b6, hm => by
    unfold w_Thought_readInStorms_l73
    have m_15 : 0 ≤ (g 36 12) ∧ (g 36 12) ≤ 12 := I.1 36 12
    refine ⟨⟨by omega, by omega⟩, ⟨by omega, by omega⟩, ?_⟩
    refine ⟨fun c27 => ?_, fun c27 => ?_⟩
    · exact hK109 _ _ I F ⟨by omega, by omega⟩ (by assumption) (by exact zLb_x (by assumption) (by assumption) (by omega) (by omega) (by omega) (by omega))
    · refine k_Thought_greatestSum I ⟨by omega, by omega⟩ ⟨by omega, by omega⟩ ⟨by omega, by omega⟩ (fun v22 b_16 b_17 => ?_)
      refine ⟨⟨by omega, by omega⟩, ⟨by omega, by omega⟩, ?_⟩
      exact k_Thought_readInStorms_l73 q3 q4 hK109 hQ n I F ⟨by omega, by omega⟩ ⟨by omega, by omega⟩ (by omega) (by omega) (by omega) (by assumption) (by first | exact zLb_i (by assumption) | exact zLb_st (by assumption) (by assumption) (by assumption) (by omega) (by omega) (by omega) (by omega)) (by omega)
set_option maxRecDepth 100000 in
set_option maxHeartbeats 4000000 in
theorem k_Thought_readInStorms_l45 {l2 : Int} {l3 : Int} {K128 : zi_M → Prop} {Q : Int → zi_M → Prop} {g0 : zi_M} (q3 : 2 ≤ l3 ∧ l3 ≤ 6) (hK128 : ∀ (g : zi_M), zk_I g → zk_fr fr_Thought_readInStorms g0 g → (zTb g (l3 + 1) 0) → K128 g) (hQ : ∀ g' : zi_M, zk_I g' → zk_fr fr_Thought_readInStorms g0 g' → (zTb g' (l2 + 1) 0) → Q 0 g') : ∀ (n : Nat) {l4 : Int} {g : zi_M}, zk_I g → zk_fr fr_Thought_readInStorms g0 g → (0 ≤ l4 ∧ l4 ≤ 11) → (zTb g l3 l4) → 11 - l4 < (n : Int) → w_Thought_readInStorms_l45 l3 K128 Q n l4 g
  | 0, l4, g, I, F, b0, b1, hm => by exfalso; omega
  | n + 1, l4, g, I, F, b0, b1, hm => by
    unfold w_Thought_readInStorms_l45
    have m_12 : 0 ≤ (g 36 12) ∧ (g 36 12) ≤ 12 := I.1 36 12
    refine ⟨⟨by omega, by omega⟩, ⟨by omega, by omega⟩, ?_⟩
    refine ⟨fun c36 => ?_, fun c36 => ?_⟩
    · exact hK128 _ I F (by exact zTb_x (by assumption) (by omega))
    · refine k_Told_minutes I ⟨by omega, by omega⟩ ⟨by omega, by omega⟩ (fun v17 b_13 b_14 => ?_)
      refine ⟨((12 - (l4 + 1) : Int).toNat + 1), k_Thought_readInStorms_l73 (l3 := l3) (l4 := l4) ⟨by omega, by omega⟩ ⟨by omega, by omega⟩ (fun k28 g29 I_18 F_19 b_20 b_21 b_22 => ?_) hQ ((12 - (l4 + 1) : Int).toNat + 1) I F ⟨by omega, by omega⟩ ⟨by omega, by omega⟩ (by omega) (by omega) (by omega) (by assumption) (by first | exact zLb_i (by assumption) | exact zLb_st (by assumption) (by assumption) (by assumption) (by omega) (by omega) (by omega) (by omega)) (by omega)⟩
      refine k_Thought_storm I_18 ⟨by omega, by omega⟩ (by omega) (fun v30 b_23 => ?_)
      refine ⟨⟨by omega, by omega⟩, ?_⟩
      intro g34 e_24
      have I_25 : zk_I g34 := by rw [e_24]; exact zk_upd (L := 0) (H := 720) rfl rfl I_18 ⟨by omega, by omega⟩
      have F_26 : zk_fr fr_Thought_readInStorms g0 g34 := by rw [e_24]; exact zk_fu F_19 rfl
      exact k_Thought_readInStorms_l45 q3 hK128 hQ n I_25 F_26 ⟨by omega, by omega⟩ (by first | assumption | exact zTb_st (by assumption) (by assumption) (by assumption) (by omega) (by assumption) (by omega) (by omega)) (by omega)
set_option maxRecDepth 100000 in
set_option maxHeartbeats 4000000 in
theorem k_Thought_readInStorms_l37 {l2 : Int} {K134 : zi_M → Prop} {Q : Int → zi_M → Prop} {g0 : zi_M} (q2 : 1 ≤ l2 ∧ l2 ≤ 6) (hK134 : ∀ (g : zi_M), zk_I g → zk_fr fr_Thought_readInStorms g0 g → (zTb g (l2 + 1) 0) → K134 g) (hQ : ∀ g' : zi_M, zk_I g' → zk_fr fr_Thought_readInStorms g0 g' → (zTb g' (l2 + 1) 0) → Q 0 g') : ∀ (n : Nat) {l3 : Int} {g : zi_M}, zk_I g → zk_fr fr_Thought_readInStorms g0 g → (2 ≤ l3 ∧ l3 ≤ 7) → (l3 ≤ l2 + 1) → (zTb g l3 0) → 7 - l3 < (n : Int) → w_Thought_readInStorms_l37 l2 K134 Q n l3 g
  | 0, l3, g, I, F, b0, b1, b2, hm => by exfalso; omega
  | n + 1, l3, g, I, F, b0, b1, b2, hm => by
    unfold w_Thought_readInStorms_l37
    refine ⟨⟨by omega, by omega⟩, ⟨by omega, by omega⟩, ?_⟩
    refine ⟨fun c39 => ?_, fun c39 => ?_⟩
    · exact hK134 _ I F (by exact zTb_e (by assumption) (by omega))
    · refine ⟨((11 - 0 : Int).toNat + 1), k_Thought_readInStorms_l45 (l3 := l3) ⟨by omega, by omega⟩ (fun g37 I_27 F_28 b_29 => ?_) hQ ((11 - 0 : Int).toNat + 1) I F ⟨by omega, by omega⟩ (by first | assumption | exact zTb_st (by assumption) (by assumption) (by assumption) (by omega) (by assumption) (by omega) (by omega)) (by omega)⟩
      exact k_Thought_readInStorms_l37 q2 hK134 hQ n I_27 F_28 ⟨by omega, by omega⟩ (by omega) (by first | assumption | exact zT1_x (by assumption) (by assumption) (by omega)) (by omega)
set_option maxRecDepth 100000 in
set_option maxHeartbeats 4000000 in
theorem k_Thought_readInStorms {l2 : Int} {g : zi_M} {Q : Int → zi_M → Prop} (I : zk_I g) (p2 : 1 ≤ l2 ∧ l2 ≤ 6) (hQ : ∀ g' : zi_M, zk_I g' → zk_fr fr_Thought_readInStorms g g' → (zTb g' (l2 + 1) 0) → Q 0 g') : w_Thought_readInStorms l2 g Q := by
  unfold w_Thought_readInStorms
  refine ⟨((13 - 0 : Int).toNat + 1), k_Thought_readInStorms_l2 (fun g12 I_9 F_10 b_11 => ?_) hQ ((13 - 0 : Int).toNat + 1) I (zk_f0 _) ⟨by omega, by omega⟩ (by first | exact zT1_0 | exact zT1_st (by assumption) (by assumption) (by omega) (by assumption) (by omega)) (by omega)⟩
  refine ⟨((7 - 2 : Int).toNat + 1), k_Thought_readInStorms_l37 (l2 := l2) ⟨by omega, by omega⟩ (fun g40 I_30 F_31 b_32 => ?_) hQ ((7 - 2 : Int).toNat + 1) I_9 F_10 ⟨by omega, by omega⟩ (by omega) (by first | assumption | exact zT1_x (by assumption) (by assumption) (by omega)) (by omega)⟩
  exact hQ _ I_30 F_31 (by assumption)
