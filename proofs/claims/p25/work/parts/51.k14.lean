-- by program (wip/gen/mkz.py)
-- SpoutNews.feed(IIIII)I
theorem k_S_feed {l1 : Int} {l2 : Int} {l3 : Int} {l4 : Int} {l5 : Int} {g : zi_M} {Q : Int → zi_M → Prop} (I : zk_I g) (p1 : (-2147483648) ≤ l1 ∧ l1 ≤ 2147483647) (p2 : (-2147483648) ≤ l2 ∧ l2 ≤ 2147483647) (p3 : (-2147483648) ≤ l3 ∧ l3 ≤ 2147483647) (p4 : (-2147483648) ≤ l4 ∧ l4 ≤ 2147483647) (p5 : (-2147483648) ≤ l5 ∧ l5 ≤ 2147483647) (hQ : ∀ (v : Int) (g' : zi_M), zk_I g' → zk_fr fr_S_feed g g' → ((-1) ≤ v ∧ v ≤ 400) → (g 0 8 ≤ 380 → v = g 0 8 + 20 ∧ g' 0 8 = g 0 8 + 20) → (380 < g 0 8 → v = -1 ∧ g' 0 8 = g 0 8) → (g 0 8 ≤ 380 → g' 190 = zfd (g 190) (g 0 8) l1 l2 l3 l4 l5) → (380 < g 0 8 → g' 190 = g 190) → Q v g') : w_S_feed l1 l2 l3 l4 l5 g Q := by
  have b8 : 0 ≤ g 0 8 ∧ g 0 8 ≤ 400 := I.1 0 8
  unfold w_S_feed
  refine ⟨⟨by omega, by omega⟩, fun c => ?_, fun c => ?_⟩
  · refine k_S_feedFour I p1 (fun g1 I1 F1 n1 r1 => ?_)
    have m1 := n1 (by omega)
    refine k_S_feedFour I1 p2 (fun g2 I2 F2 n2 r2 => ?_)
    have m2 := n2 (by omega)
    refine k_S_feedFour I2 p3 (fun g3 I3 F3 n3 r3 => ?_)
    have m3 := n3 (by omega)
    refine k_S_feedFour I3 p4 (fun g4 I4 F4 n4 r4 => ?_)
    have m4 := n4 (by omega)
    refine k_S_feedFour I4 p5 (fun g5 I5 F5 n5 r5 => ?_)
    have m5 := n5 (by omega)
    have b5 : 0 ≤ g5 0 8 ∧ g5 0 8 ≤ 400 := I5.1 0 8
    refine hQ _ g5 I5 (zk_ft (zk_ft (zk_ft (zk_ft F1 F2 (fun _ _ h => h)) F3 (fun _ _ h => h)) F4 (fun _ _ h => h)) F5 (fun _ _ h => h)) ⟨by omega, by omega⟩ (fun _ => ⟨by omega, by omega⟩) (fun q => by exfalso; omega) (fun _ => ?_) (fun q => by exfalso; omega)
    rw [r5 (by omega), r4 (by omega), r3 (by omega), r2 (by omega), r1 (by omega), show g4 0 8 = g 0 8 + 16 by omega, show g3 0 8 = g 0 8 + 12 by omega, show g2 0 8 = g 0 8 + 8 by omega, m1]
    rfl
  · exact hQ (-1) g I (zk_f0 _) ⟨by decide, by decide⟩ (fun q => by exfalso; omega) (fun _ => ⟨rfl, rfl⟩) (fun q => by exfalso; omega) (fun _ => rfl)

-- SpoutNewsModel.types(I)V
theorem k_M_types_1 {l1 l2 : Int} {K : zi_M → Prop} {Q : Int → zi_M → Prop} {m : Nat} {g : zi_M} (I : zk_I g) (hl : l2 = 0 ∨ l2 = 8 ∨ l2 = 16 ∨ l2 = 24) (hn : g 214 13 < 400) (h : ∀ g' : zi_M, zk_I g' → zk_fr fr_M_types g g' → g' 214 13 = g 214 13 + 1 → g' 222 = zup (g 222) (g 214 13) (zby l1 l2) → w_M_types_l3 l1 K Q m (l2 + (-8)) g') : w_M_types_l3 l1 K Q (m + 1) l2 g := by
  have b8 : 0 ≤ g 214 13 ∧ g 214 13 ≤ 400 := I.1 214 13
  unfold w_M_types_l3
  refine ⟨⟨by omega, by omega⟩, fun c => by exfalso; omega, fun _ => ⟨⟨by omega, by omega⟩, ?_⟩⟩
  intro g4 e4 g5 e5
  have b := zby_b l1 l2
  have I4 : zk_I g4 := by rw [e4]; exact zk_upd (L := 0) (H := 255) rfl rfl I b
  have s8 : g4 214 13 = g 214 13 := by rw [e4]; exact zi_u_ne (by decide)
  refine h g5 (by rw [e5]; exact zk_upd (L := 0) (H := 400) rfl rfl I4 ⟨by omega, by omega⟩) (by rw [e5, e4]; exact zk_fu (zk_fu (zk_f0 _) (Or.inl rfl)) (Or.inr ⟨rfl, rfl⟩)) (by rw [e5, zi_u_eq, s8]) (by rw [e5, zi_u_row (by decide), e4, zup_u]; rfl)
theorem k_M_types {l1 : Int} {g : zi_M} {Q : Int → zi_M → Prop} (I : zk_I g) (p1 : (-2147483648) ≤ l1 ∧ l1 ≤ 2147483647) (px0 : g 214 13 ≤ 396) (hQ : ∀ g' : zi_M, zk_I g' → zk_fr fr_M_types g g' → (g' 214 13 = g 214 13 + 4) → (g' 222 = zty (g 222) (g 214 13) l1) → Q 0 g') : w_M_types l1 g Q := by
  have b8 : 0 ≤ g 214 13 ∧ g 214 13 ≤ 400 := I.1 214 13
  unfold w_M_types
  refine ⟨5, k_M_types_1 I (by decide) (by omega) (fun g1 I1 F1 n1 r1 => k_M_types_1 I1 (by decide) (by omega) (fun g2 I2 F2 n2 r2 => k_M_types_1 I2 (by decide) (by omega) (fun g3 I3 F3 n3 r3 => k_M_types_1 I3 (by decide) (by omega) (fun g4 I4 F4 n4 r4 => ?_))))⟩
  unfold w_M_types_l3
  refine ⟨by decide, fun _ => ?_, fun q => absurd q (by decide)⟩
  refine hQ g4 I4 (zk_ft (zk_ft (zk_ft F1 F2 (fun _ _ h => h)) F3 (fun _ _ h => h)) F4 (fun _ _ h => h)) (by omega) ?_
  rw [r4, r3, r2, r1, n3, n2, n1]
  rfl

-- SpoutNewsModel.feed(IIIII)I
theorem k_M_feed {l1 : Int} {l2 : Int} {l3 : Int} {l4 : Int} {l5 : Int} {g : zi_M} {Q : Int → zi_M → Prop} (I : zk_I g) (p1 : (-2147483648) ≤ l1 ∧ l1 ≤ 2147483647) (p2 : (-2147483648) ≤ l2 ∧ l2 ≤ 2147483647) (p3 : (-2147483648) ≤ l3 ∧ l3 ≤ 2147483647) (p4 : (-2147483648) ≤ l4 ∧ l4 ≤ 2147483647) (p5 : (-2147483648) ≤ l5 ∧ l5 ≤ 2147483647) (hQ : ∀ (v : Int) (g' : zi_M), zk_I g' → zk_fr fr_M_feed g g' → ((-1) ≤ v ∧ v ≤ 400) → (g 214 13 ≤ 380 → v = g 214 13 + 20 ∧ g' 214 13 = g 214 13 + 20) → (380 < g 214 13 → v = -1 ∧ g' 214 13 = g 214 13) → (g 214 13 ≤ 380 → g' 222 = zfd (g 222) (g 214 13) l1 l2 l3 l4 l5) → (380 < g 214 13 → g' 222 = g 222) → Q v g') : w_M_feed l1 l2 l3 l4 l5 g Q := by
  unfold w_M_feed
  intro g0 e0
  have I0 : zk_I g0 := by rw [e0]; exact zk_upd (L := -2147483648) (H := 2147483647) rfl rfl I ⟨by decide, by decide⟩
  have F0 : zk_fr fr_M_feed g g0 := by rw [e0]; exact zk_fu (zk_f0 _) (Or.inr (Or.inl ⟨rfl, rfl⟩))
  have s13 : g0 214 13 = g 214 13 := by rw [e0]; exact zi_u_ni (by decide)
  have s222 : g0 222 = g 222 := by rw [e0]; exact zi_u_row (by decide)
  have b8 : 0 ≤ g0 214 13 ∧ g0 214 13 ≤ 400 := I0.1 214 13
  have sub : ∀ a i, fr_M_types a i → fr_M_feed a i := fun a i h => by unfold fr_M_types at h; unfold fr_M_feed; omega
  refine ⟨⟨by omega, by omega⟩, fun c => ?_, fun c => ?_⟩
  · refine k_M_types I0 p1 (by omega) (fun g1 I1 F1 m1 r1 => ?_)
    refine k_M_types I1 p2 (by omega) (fun g2 I2 F2 m2 r2 => ?_)
    refine k_M_types I2 p3 (by omega) (fun g3 I3 F3 m3 r3 => ?_)
    refine k_M_types I3 p4 (by omega) (fun g4 I4 F4 m4 r4 => ?_)
    refine k_M_types I4 p5 (by omega) (fun g5 I5 F5 m5 r5 => ?_)
    have b5 : 0 ≤ g5 214 13 ∧ g5 214 13 ≤ 400 := I5.1 214 13
    refine hQ _ g5 I5 (zk_ft (zk_ft (zk_ft (zk_ft (zk_ft F0 F1 sub) F2 sub) F3 sub) F4 sub) F5 sub) ⟨by omega, by omega⟩ (fun _ => ⟨by omega, by omega⟩) (fun q => by exfalso; omega) (fun _ => ?_) (fun q => by exfalso; omega)
    rw [r5, r4, r3, r2, r1, show g4 214 13 = g0 214 13 + 16 by omega, show g3 214 13 = g0 214 13 + 12 by omega, show g2 214 13 = g0 214 13 + 8 by omega, m1, s222, s13]
    rfl
  · exact hQ (-1) g0 I0 F0 ⟨by decide, by decide⟩ (fun q => by exfalso; omega) (fun _ => ⟨rfl, s13⟩) (fun q => by exfalso; omega) (fun _ => s222)

-- SpoutNews.end(I)Z
set_option maxRecDepth 100000 in
set_option maxHeartbeats 4000000 in
theorem k_S_end {l1 : Int} {g : zi_M} {Q : Int → zi_M → Prop} (I : zk_I g) (p1 : (-2147483648) ≤ l1 ∧ l1 ≤ 2147483647) (hQ : ∀ (v : Int) (g' : zi_M), zk_I g' → zk_fr fr_S_end g g' → (0 ≤ v ∧ v ≤ 1) → (0 ≤ l1 ∧ l1 ≤ g 0 8 → v = 1 ∧ g' 0 8 = l1) → (¬ (0 ≤ l1 ∧ l1 ≤ g 0 8) → v = 0 ∧ g' 0 8 = g 0 8) → Q v g') : w_S_end l1 g Q := by
  unfold w_S_end
  refine ⟨⟨by omega, by omega⟩, ?_⟩
  refine ⟨fun c5 => ?_, fun c5 => ?_⟩
  · have m_1 : 0 ≤ (g 0 8) ∧ (g 0 8) ≤ 400 := I.1 0 8
    exact hQ _ _ I (zk_f0 _) ⟨by omega, by omega⟩ (by omega) (by omega)
  · have m_2 : 0 ≤ (g 0 8) ∧ (g 0 8) ≤ 400 := I.1 0 8
    refine ⟨⟨by omega, by omega⟩, ?_⟩
    refine ⟨fun c4 => ?_, fun c4 => ?_⟩
    · intro g3 e_3
      have I_4 : zk_I g3 := by rw [e_3]; exact zk_upd (L := 0) (H := 400) rfl rfl I ⟨by omega, by omega⟩
      have F_5 : zk_fr fr_S_end g g3 := by rw [e_3]; exact zk_fu (zk_f0 _) ⟨rfl, rfl⟩
      have m_6 : 0 ≤ (g3 0 8) ∧ (g3 0 8) ≤ 400 := I_4.1 0 8
      have m_7 : g3 0 8 = l1 := by rw [e_3]; exact zi_u_eq
      exact hQ _ _ I_4 F_5 ⟨by omega, by omega⟩ (by omega) (by omega)
    · exact hQ _ _ I (zk_f0 _) ⟨by omega, by omega⟩ (by omega) (by omega)
-- SpoutNewsModel.end(I)Z
set_option maxRecDepth 100000 in
set_option maxHeartbeats 4000000 in
theorem k_M_end {l1 : Int} {g : zi_M} {Q : Int → zi_M → Prop} (I : zk_I g) (p1 : (-2147483648) ≤ l1 ∧ l1 ≤ 2147483647) (hQ : ∀ (v : Int) (g' : zi_M), zk_I g' → zk_fr fr_M_end g g' → (0 ≤ v ∧ v ≤ 1) → (0 ≤ l1 ∧ l1 ≤ g 214 13 → v = 1 ∧ g' 214 13 = l1) → (¬ (0 ≤ l1 ∧ l1 ≤ g 214 13) → v = 0 ∧ g' 214 13 = g 214 13) → Q v g') : w_M_end l1 g Q := by
  unfold w_M_end
  intro g1 e_1
  have I_2 : zk_I g1 := by rw [e_1]; exact zk_upd (L := (-2147483648)) (H := 2147483647) rfl rfl I ⟨by omega, by omega⟩
  have F_3 : zk_fr fr_M_end g g1 := by rw [e_1]; exact zk_fu (zk_f0 _) (Or.inl ⟨rfl, rfl⟩)
  have m_4 : 0 ≤ (g1 214 13) ∧ (g1 214 13) ≤ 400 := I_2.1 214 13
  have m_5 : g1 214 13 = g 214 13 := by rw [e_1]; exact zi_u_ni (by decide)
  have m_6 : 0 ≤ (g 214 13) ∧ (g 214 13) ≤ 400 := I.1 214 13
  refine k_M_isIn I_2 ⟨by omega, by omega⟩ ⟨by omega, by omega⟩ ⟨by omega, by omega⟩ (fun v2 b_7 b_8 b_9 => ?_)
  refine ⟨fun c6 => ?_, fun c6 => ?_⟩
  · intro g5 e_10
    have I_11 : zk_I g5 := by rw [e_10]; exact zk_upd (L := 0) (H := 400) rfl rfl I_2 ⟨by omega, by omega⟩
    have F_12 : zk_fr fr_M_end g g5 := by rw [e_10]; exact zk_fu F_3 (Or.inr ⟨rfl, rfl⟩)
    have m_13 : 0 ≤ (g5 214 13) ∧ (g5 214 13) ≤ 400 := I_11.1 214 13
    have m_14 : g5 214 13 = l1 := by rw [e_10]; exact zi_u_eq
    exact hQ _ _ I_11 F_12 ⟨by omega, by omega⟩ (by omega) (by omega)
  · exact hQ _ _ I_2 F_3 ⟨by omega, by omega⟩ (by omega) (by omega)
-- SpoutNews$Tokens.clear()V
set_option maxRecDepth 100000 in
set_option maxHeartbeats 4000000 in
theorem k_Tokens_clear {g : zi_M} {Q : Int → zi_M → Prop} (I : zk_I g) (hQ : ∀ g' : zi_M, zk_I g' → zk_fr fr_Tokens_clear g g' → (g' 191 3 = 0) → (g' 191 4 = 0) → (g' 191 5 = 0) → (g' 191 6 = -1) → Q 0 g') : w_Tokens_clear g Q := by
  unfold w_Tokens_clear
  intro g1 e_1
  have I_2 : zk_I g1 := by rw [e_1]; exact zk_upd (L := 0) (H := 401) rfl rfl I ⟨by omega, by omega⟩
  have F_3 : zk_fr fr_Tokens_clear g g1 := by rw [e_1]; exact zk_fu (zk_f0 _) (Or.inl ⟨rfl, rfl⟩)
  intro g2 e_4
  have I_5 : zk_I g2 := by rw [e_4]; exact zk_upd (L := 0) (H := 401) rfl rfl I_2 ⟨by omega, by omega⟩
  have F_6 : zk_fr fr_Tokens_clear g g2 := by rw [e_4]; exact zk_fu F_3 (Or.inr (Or.inl ⟨rfl, rfl⟩))
  intro g3 e_7
  have I_8 : zk_I g3 := by rw [e_7]; exact zk_upd (L := 0) (H := 3) rfl rfl I_5 ⟨by omega, by omega⟩
  have F_9 : zk_fr fr_Tokens_clear g g3 := by rw [e_7]; exact zk_fu F_6 (Or.inr (Or.inr (Or.inl ⟨rfl, rfl⟩)))
  intro g4 e_10
  have I_11 : zk_I g4 := by rw [e_10]; exact zk_upd (L := (-1)) (H := 400) rfl rfl I_8 ⟨by omega, by omega⟩
  have F_12 : zk_fr fr_Tokens_clear g g4 := by rw [e_10]; exact zk_fu F_9 (Or.inr (Or.inr (Or.inr ⟨rfl, rfl⟩)))
  have m_13 : 0 ≤ (g4 191 3) ∧ (g4 191 3) ≤ 401 := I_11.1 191 3
  have m_14 : g4 191 3 = g3 191 3 := by rw [e_10]; exact zi_u_ni (by decide)
  have m_15 : 0 ≤ (g3 191 3) ∧ (g3 191 3) ≤ 401 := I_8.1 191 3
  have m_16 : g3 191 3 = g2 191 3 := by rw [e_7]; exact zi_u_ni (by decide)
  have m_17 : 0 ≤ (g2 191 3) ∧ (g2 191 3) ≤ 401 := I_5.1 191 3
  have m_18 : g2 191 3 = g1 191 3 := by rw [e_4]; exact zi_u_ni (by decide)
  have m_19 : 0 ≤ (g1 191 3) ∧ (g1 191 3) ≤ 401 := I_2.1 191 3
  have m_20 : g1 191 3 = 0 := by rw [e_1]; exact zi_u_eq
  have m_21 : 0 ≤ (g4 191 4) ∧ (g4 191 4) ≤ 401 := I_11.1 191 4
  have m_22 : g4 191 4 = g3 191 4 := by rw [e_10]; exact zi_u_ni (by decide)
  have m_23 : 0 ≤ (g3 191 4) ∧ (g3 191 4) ≤ 401 := I_8.1 191 4
  have m_24 : g3 191 4 = g2 191 4 := by rw [e_7]; exact zi_u_ni (by decide)
  have m_25 : 0 ≤ (g2 191 4) ∧ (g2 191 4) ≤ 401 := I_5.1 191 4
  have m_26 : g2 191 4 = 0 := by rw [e_4]; exact zi_u_eq
  have m_27 : 0 ≤ (g4 191 5) ∧ (g4 191 5) ≤ 3 := I_11.1 191 5
  have m_28 : g4 191 5 = g3 191 5 := by rw [e_10]; exact zi_u_ni (by decide)
  have m_29 : 0 ≤ (g3 191 5) ∧ (g3 191 5) ≤ 3 := I_8.1 191 5
  have m_30 : g3 191 5 = 0 := by rw [e_7]; exact zi_u_eq
  have m_31 : (-1) ≤ (g4 191 6) ∧ (g4 191 6) ≤ 400 := I_11.1 191 6
  have m_32 : g4 191 6 = (-1) := by rw [e_10]; exact zi_u_eq
  exact hQ _ I_11 F_12 (by omega) (by omega) (by omega) (by omega)
-- SpoutNews$Tokens.isLetter(I)Z
set_option maxRecDepth 100000 in
set_option maxHeartbeats 4000000 in
theorem k_Tokens_isLetter_b12 {l0 : Int} {Q : Int → zi_M → Prop} {g : zi_M} (I : zk_I g) (p0 : 0 ≤ l0 ∧ l0 ≤ 255) (ix0 : ¬ (97 ≤ l0 ∧ l0 ≤ 122)) (hQ : ∀ v : Int, (l0 < 97 → l0 < 65 → v = 0) → (l0 < 97 → 65 ≤ l0 → 90 < l0 → v = 0) → (l0 < 97 → 65 ≤ l0 → l0 ≤ 90 → v = 1) → (97 ≤ l0 → l0 ≤ 122 → v = 1) → (97 ≤ l0 → 122 < l0 → l0 < 65 → v = 0) → (97 ≤ l0 → 122 < l0 → 65 ≤ l0 → 90 < l0 → v = 0) → (97 ≤ l0 → 122 < l0 → 65 ≤ l0 → l0 ≤ 90 → v = 1) → (zlt l0 → v = 1) → (¬ zlt l0 → v = 0) → Q v g) : w_Tokens_isLetter_b12 l0 g Q := by
  unfold w_Tokens_isLetter_b12
  refine ⟨⟨by omega, by omega⟩, ?_⟩
  refine ⟨fun c4 => ?_, fun c4 => ?_⟩
  · exact hQ _ (by intros; omega) (by intros; omega) (by intros; omega) (by intros; omega) (by intros; omega) (by intros; omega) (by intros; omega) (by intro hv; unfold zlt at hv; omega) (by intro hv; unfold zlt at hv; omega)
  · refine ⟨fun c3 => ?_, fun c3 => ?_⟩
    · exact hQ _ (by intros; omega) (by intros; omega) (by intros; omega) (by intros; omega) (by intros; omega) (by intros; omega) (by intros; omega) (by intro hv; unfold zlt at hv; omega) (by intro hv; unfold zlt at hv; omega)
    · exact hQ _ (by intros; omega) (by intros; omega) (by intros; omega) (by intros; omega) (by intros; omega) (by intros; omega) (by intros; omega) (by intro hv; unfold zlt at hv; omega) (by intro hv; unfold zlt at hv; omega)
set_option maxRecDepth 100000 in
set_option maxHeartbeats 4000000 in
theorem k_Tokens_isLetter {l0 : Int} {g : zi_M} {Q : Int → zi_M → Prop} (I : zk_I g) (p0 : 0 ≤ l0 ∧ l0 ≤ 255) (hQ : ∀ v : Int, (l0 < 97 → l0 < 65 → v = 0) → (l0 < 97 → 65 ≤ l0 → 90 < l0 → v = 0) → (l0 < 97 → 65 ≤ l0 → l0 ≤ 90 → v = 1) → (97 ≤ l0 → l0 ≤ 122 → v = 1) → (97 ≤ l0 → 122 < l0 → l0 < 65 → v = 0) → (97 ≤ l0 → 122 < l0 → 65 ≤ l0 → 90 < l0 → v = 0) → (97 ≤ l0 → 122 < l0 → 65 ≤ l0 → l0 ≤ 90 → v = 1) → (zlt l0 → v = 1) → (¬ zlt l0 → v = 0) → Q v g) : w_Tokens_isLetter l0 g Q := by
  unfold w_Tokens_isLetter
  refine ⟨⟨by omega, by omega⟩, ?_⟩
  refine ⟨fun c6 => ?_, fun c6 => ?_⟩
  · exact k_Tokens_isLetter_b12 I ⟨by omega, by omega⟩ (by omega) hQ
  · refine ⟨fun c5 => ?_, fun c5 => ?_⟩
    · exact hQ _ (by intros; omega) (by intros; omega) (by intros; omega) (by intros; omega) (by intros; omega) (by intros; omega) (by intros; omega) (by intro hv; unfold zlt at hv; omega) (by intro hv; unfold zlt at hv; omega)
    · exact k_Tokens_isLetter_b12 I ⟨by omega, by omega⟩ (by omega) hQ
-- SpoutNews$Tokens.isDigit(I)Z
set_option maxRecDepth 100000 in
set_option maxHeartbeats 4000000 in
theorem k_Tokens_isDigit {l0 : Int} {g : zi_M} {Q : Int → zi_M → Prop} (I : zk_I g) (p0 : 0 ≤ l0 ∧ l0 ≤ 255) (hQ : ∀ v : Int, (l0 < 48 → v = 0) → (48 ≤ l0 → 57 < l0 → v = 0) → (48 ≤ l0 → l0 ≤ 57 → v = 1) → Q v g) : w_Tokens_isDigit l0 g Q := by
  unfold w_Tokens_isDigit
  refine ⟨⟨by omega, by omega⟩, ?_⟩
  refine ⟨fun c3 => ?_, fun c3 => ?_⟩
  · exact hQ _ (by intros; omega) (by intros; omega) (by intros; omega)
  · refine ⟨fun c2 => ?_, fun c2 => ?_⟩
    · exact hQ _ (by intros; omega) (by intros; omega) (by intros; omega)
    · exact hQ _ (by intros; omega) (by intros; omega) (by intros; omega)
-- SpoutNews$Tokens.isSignOfLaw(I)Z
set_option maxRecDepth 100000 in
set_option maxHeartbeats 4000000 in
theorem k_Tokens_isSignOfLaw {l0 : Int} {g : zi_M} {Q : Int → zi_M → Prop} (I : zk_I g) (p0 : 0 ≤ l0 ∧ l0 ≤ 255) (hQ : ∀ v : Int, (l0 = 59 → v = 1) → (¬ l0 = 59 → l0 = 43 → v = 1) → (¬ l0 = 59 → ¬ l0 = 43 → l0 = 45 → v = 1) → (¬ l0 = 59 → ¬ l0 = 43 → ¬ l0 = 45 → l0 = 42 → v = 1) → (¬ l0 = 59 → ¬ l0 = 43 → ¬ l0 = 45 → ¬ l0 = 42 → l0 = 47 → v = 1) → (¬ l0 = 59 → ¬ l0 = 43 → ¬ l0 = 45 → ¬ l0 = 42 → ¬ l0 = 47 → l0 = 40 → v = 1) → (¬ l0 = 59 → ¬ l0 = 43 → ¬ l0 = 45 → ¬ l0 = 42 → ¬ l0 = 47 → ¬ l0 = 40 → l0 = 41 → v = 1) → (¬ l0 = 59 → ¬ l0 = 43 → ¬ l0 = 45 → ¬ l0 = 42 → ¬ l0 = 47 → ¬ l0 = 40 → ¬ l0 = 41 → l0 = 60 → v = 1) → (¬ l0 = 59 → ¬ l0 = 43 → ¬ l0 = 45 → ¬ l0 = 42 → ¬ l0 = 47 → ¬ l0 = 40 → ¬ l0 = 41 → ¬ l0 = 60 → l0 = 61 → v = 1) → (¬ l0 = 59 → ¬ l0 = 43 → ¬ l0 = 45 → ¬ l0 = 42 → ¬ l0 = 47 → ¬ l0 = 40 → ¬ l0 = 41 → ¬ l0 = 60 → ¬ l0 = 61 → ¬ l0 = 62 → v = 0) → (¬ l0 = 59 → ¬ l0 = 43 → ¬ l0 = 45 → ¬ l0 = 42 → ¬ l0 = 47 → ¬ l0 = 40 → ¬ l0 = 41 → ¬ l0 = 60 → ¬ l0 = 61 → l0 = 62 → v = 1) → (zsg l0 → v = 1) → (¬ zsg l0 → v = 0) → Q v g) : w_Tokens_isSignOfLaw l0 g Q := by
  unfold w_Tokens_isSignOfLaw
  refine ⟨⟨by omega, by omega⟩, ?_⟩
  refine ⟨fun c11 => ?_, fun c11 => ?_⟩
  · exact hQ _ (by intros; omega) (by intros; omega) (by intros; omega) (by intros; omega) (by intros; omega) (by intros; omega) (by intros; omega) (by intros; omega) (by intros; omega) (by intros; omega) (by intros; omega) (by intro hv; unfold zsg at hv; omega) (by intro hv; unfold zsg at hv; omega)
  · refine ⟨fun c10 => ?_, fun c10 => ?_⟩
    · exact hQ _ (by intros; omega) (by intros; omega) (by intros; omega) (by intros; omega) (by intros; omega) (by intros; omega) (by intros; omega) (by intros; omega) (by intros; omega) (by intros; omega) (by intros; omega) (by intro hv; unfold zsg at hv; omega) (by intro hv; unfold zsg at hv; omega)
    · refine ⟨fun c9 => ?_, fun c9 => ?_⟩
      · exact hQ _ (by intros; omega) (by intros; omega) (by intros; omega) (by intros; omega) (by intros; omega) (by intros; omega) (by intros; omega) (by intros; omega) (by intros; omega) (by intros; omega) (by intros; omega) (by intro hv; unfold zsg at hv; omega) (by intro hv; unfold zsg at hv; omega)
      · refine ⟨fun c8 => ?_, fun c8 => ?_⟩
        · exact hQ _ (by intros; omega) (by intros; omega) (by intros; omega) (by intros; omega) (by intros; omega) (by intros; omega) (by intros; omega) (by intros; omega) (by intros; omega) (by intros; omega) (by intros; omega) (by intro hv; unfold zsg at hv; omega) (by intro hv; unfold zsg at hv; omega)
        · refine ⟨fun c7 => ?_, fun c7 => ?_⟩
          · exact hQ _ (by intros; omega) (by intros; omega) (by intros; omega) (by intros; omega) (by intros; omega) (by intros; omega) (by intros; omega) (by intros; omega) (by intros; omega) (by intros; omega) (by intros; omega) (by intro hv; unfold zsg at hv; omega) (by intro hv; unfold zsg at hv; omega)
          · refine ⟨fun c6 => ?_, fun c6 => ?_⟩
            · exact hQ _ (by intros; omega) (by intros; omega) (by intros; omega) (by intros; omega) (by intros; omega) (by intros; omega) (by intros; omega) (by intros; omega) (by intros; omega) (by intros; omega) (by intros; omega) (by intro hv; unfold zsg at hv; omega) (by intro hv; unfold zsg at hv; omega)
            · refine ⟨fun c5 => ?_, fun c5 => ?_⟩
              · exact hQ _ (by intros; omega) (by intros; omega) (by intros; omega) (by intros; omega) (by intros; omega) (by intros; omega) (by intros; omega) (by intros; omega) (by intros; omega) (by intros; omega) (by intros; omega) (by intro hv; unfold zsg at hv; omega) (by intro hv; unfold zsg at hv; omega)
              · refine ⟨fun c4 => ?_, fun c4 => ?_⟩
                · exact hQ _ (by intros; omega) (by intros; omega) (by intros; omega) (by intros; omega) (by intros; omega) (by intros; omega) (by intros; omega) (by intros; omega) (by intros; omega) (by intros; omega) (by intros; omega) (by intro hv; unfold zsg at hv; omega) (by intro hv; unfold zsg at hv; omega)
                · refine ⟨fun c3 => ?_, fun c3 => ?_⟩
                  · exact hQ _ (by intros; omega) (by intros; omega) (by intros; omega) (by intros; omega) (by intros; omega) (by intros; omega) (by intros; omega) (by intros; omega) (by intros; omega) (by intros; omega) (by intros; omega) (by intro hv; unfold zsg at hv; omega) (by intro hv; unfold zsg at hv; omega)
                  · refine ⟨fun c2 => ?_, fun c2 => ?_⟩
                    · exact hQ _ (by intros; omega) (by intros; omega) (by intros; omega) (by intros; omega) (by intros; omega) (by intros; omega) (by intros; omega) (by intros; omega) (by intros; omega) (by intros; omega) (by intros; omega) (by intro hv; unfold zsg at hv; omega) (by intro hv; unfold zsg at hv; omega)
                    · exact hQ _ (by intros; omega) (by intros; omega) (by intros; omega) (by intros; omega) (by intros; omega) (by intros; omega) (by intros; omega) (by intros; omega) (by intros; omega) (by intros; omega) (by intros; omega) (by intro hv; unfold zsg at hv; omega) (by intro hv; unfold zsg at hv; omega)
-- SpoutNews$Tokens.add(III)V
set_option maxRecDepth 100000 in
set_option maxHeartbeats 4000000 in
theorem k_Tokens_add {l1 : Int} {l2 : Int} {l3 : Int} {g : zi_M} {Q : Int → zi_M → Prop} (I : zk_I g) (p1 : 0 ≤ l1 ∧ l1 ≤ 4) (p2 : (-1) ≤ l2 ∧ l2 ≤ 9999) (p3 : 0 ≤ l3 ∧ l3 ≤ 400) (hQ : ∀ g' : zi_M, zk_I g' → zk_fr fr_Tokens_add g g' → (g 191 3 ≤ 400 → g' 191 3 = g 191 3 + 1) → (g 191 3 ≤ 400 → g' 192 = zup (g 192) (g 191 3) l1 ∧ g' 193 = zup (g 193) (g 191 3) l2 ∧ g' 194 = zup (g 194) (g 191 3) l3) → Q 0 g') : w_Tokens_add l1 l2 l3 g Q := by
  unfold w_Tokens_add
  have m_1 : 0 ≤ (g 191 3) ∧ (g 191 3) ≤ 401 := I.1 191 3
  refine ⟨⟨by omega, by omega⟩, ?_⟩
  refine ⟨fun c9 => ?_, fun c9 => ?_⟩
  · exact hQ _ I (zk_f0 _) (by omega) (by intro hv; first | (exfalso; omega) | exact zadd_l (by assumption) (by assumption) (by assumption) (by assumption))
  · refine ⟨⟨by omega, by omega⟩, ?_⟩
    intro g3 e_2
    have I_3 : zk_I g3 := by rw [e_2]; exact zk_upd (L := 0) (H := 4) rfl rfl I ⟨by omega, by omega⟩
    have F_4 : zk_fr fr_Tokens_add g g3 := by rw [e_2]; exact zk_fu (zk_f0 _) (Or.inl rfl)
    have m_8 : 0 ≤ (g3 191 3) ∧ (g3 191 3) ≤ 401 := I_3.1 191 3
    have m_9 : g3 191 3 = g 191 3 := by rw [e_2]; exact zi_u_ne (by decide)
    refine ⟨⟨by omega, by omega⟩, ?_⟩
    intro g5 e_5
    have I_6 : zk_I g5 := by rw [e_5]; exact zk_upd (L := (-1)) (H := 9999) rfl rfl I_3 ⟨by omega, by omega⟩
    have F_7 : zk_fr fr_Tokens_add g g5 := by rw [e_5]; exact zk_fu F_4 (Or.inr (Or.inl rfl))
    have m_13 : 0 ≤ (g5 191 3) ∧ (g5 191 3) ≤ 401 := I_6.1 191 3
    have m_14 : g5 191 3 = g3 191 3 := by rw [e_5]; exact zi_u_ne (by decide)
    refine ⟨⟨by omega, by omega⟩, ?_⟩
    intro g7 e_10
    have I_11 : zk_I g7 := by rw [e_10]; exact zk_upd (L := 0) (H := 400) rfl rfl I_6 ⟨by omega, by omega⟩
    have F_12 : zk_fr fr_Tokens_add g g7 := by rw [e_10]; exact zk_fu F_7 (Or.inr (Or.inr (Or.inl rfl)))
    have m_18 : 0 ≤ (g7 191 3) ∧ (g7 191 3) ≤ 401 := I_11.1 191 3
    have m_19 : g7 191 3 = g5 191 3 := by rw [e_10]; exact zi_u_ne (by decide)
    intro g8 e_15
    have I_16 : zk_I g8 := by rw [e_15]; exact zk_upd (L := 0) (H := 401) rfl rfl I_11 ⟨by omega, by omega⟩
    have F_17 : zk_fr fr_Tokens_add g g8 := by rw [e_15]; exact zk_fu F_12 (Or.inr (Or.inr (Or.inr ⟨rfl, rfl⟩)))
    have m_20 : 0 ≤ (g8 191 3) ∧ (g8 191 3) ≤ 401 := I_16.1 191 3
    have m_21 : g8 191 3 = (g7 191 3) + 1 := by rw [e_15]; exact zi_u_eq
    exact hQ _ I_16 F_17 (by omega) (by intro hv; first | (exfalso; omega) | exact zadd_l (by assumption) (by assumption) (by assumption) (by assumption))
-- SpoutNews$Tokens.numberAt([III)I
set_option maxRecDepth 100000 in
set_option maxHeartbeats 4000000 in
theorem k_Tokens_numberAt_l5 {g : zi_M} (I : zk_I g) {l1 : Int} {l2 : Int} {K29 : zi_M → Prop} {K50 : Int → zi_M → Prop} {Q : Int → zi_M → Prop} (q1 : 0 ≤ l1 ∧ l1 ≤ 399) (q2 : 1 ≤ l2 ∧ l2 ≤ 400) (hK29 : (∀ b : Int, zrn zdt (g 190) l2 l1 b → 5 ≤ b - l1) → K29 g) (hK50 : ∀ (k3 : Int), (0 ≤ k3 ∧ k3 ≤ 9999) → (∀ b : Int, zrn zdt (g 190) l2 l1 b → b - l1 < 5 ∧ k3 = zdec (g 190) l1 (b - l1).toNat) → K50 k3 g) (hQ : ∀ v : Int, ((-1) ≤ v ∧ v ≤ 9999) → (∀ b : Int, zrn zdt (g 190) l2 l1 b → (b - l1 < 5 → v = zdec (g 190) l1 (b - l1).toNat) ∧ (5 ≤ b - l1 → v = -1)) → Q v g) : ∀ (n : Nat) {l3 : Int} {l4 : Int}, (0 ≤ l3 ∧ l3 ≤ 9999) → (0 ≤ l4 ∧ l4 ≤ 400) → (l1 ≤ l4) → (l4 ≤ l1 + 4) → (l4 = l1 → l3 = 0) → (l4 = l1 + 1 → l3 ≤ 9) → (l4 = l1 + 2 → l3 ≤ 99) → (l4 = l1 + 3 → l3 ≤ 999) → (l4 ≤ l2 ∨ l4 = l1) → (∀ j : Int, l1 ≤ j → j < l4 → zdt (g 190 j)) → (l3 = zdec (g 190) l1 (l4 - l1).toNat) → 400 - l4 < (n : Int) → w_Tokens_numberAt_l5 l1 l2 K29 K50 Q n l3 l4 g
  | 0, l3, l4, b0, b1, b2, b3, b4, b5, b6, b7, b8, b9, b10, hm => by exfalso; omega
  | n + 1, l3, l4, b0, b1, b2, b3, b4, b5, b6, b7, b8, b9, b10, hm => by
    unfold w_Tokens_numberAt_l5
    refine ⟨⟨by omega, by omega⟩, ⟨by omega, by omega⟩, ?_⟩
    refine ⟨fun c10 => ?_, fun c10 => ?_⟩
    · exact hK50 _ ⟨by omega, by omega⟩ (by exact znm_e b9 b10 (by omega) (by omega) (by omega) (by first | exact Or.inl (by omega) | exact Or.inr (by unfold zdt; omega)))
    · refine ⟨⟨by omega, by omega⟩, ?_⟩
      have m_1 : 0 ≤ (g 190 l4) ∧ (g 190 l4) ≤ 255 := I.1 190 l4
      refine k_Tokens_isDigit I ⟨by omega, by omega⟩ (fun v4 b_2 b_3 b_4 => ?_)
      refine ⟨fun c9 => ?_, fun c9 => ?_⟩
      · exact hK50 _ ⟨by omega, by omega⟩ (by exact znm_e b9 b10 (by omega) (by omega) (by omega) (by first | exact Or.inl (by omega) | exact Or.inr (by unfold zdt; omega)))
      · refine ⟨⟨by omega, by omega⟩, ?_⟩
        refine ⟨fun c8 => ?_, fun c8 => ?_⟩
        · exact k_Tokens_numberAt_l5 I q1 q2 hK29 hK50 hQ n ⟨by omega, by omega⟩ ⟨by omega, by omega⟩ (by omega) (by omega) (by omega) (by omega) (by omega) (by omega) (by omega) (by first | exact zal_j b9 (by unfold zdt; omega) | (intro j h0 h1; exfalso; omega)) (by first | exact zdec_s b10 (by omega) | exact zdec_i (by omega)) (by omega)
        · exact hK29 (by exact znm_b b9 (by unfold zdt; omega) (by omega) (by omega))
set_option maxRecDepth 100000 in
set_option maxHeartbeats 4000000 in
theorem k_Tokens_numberAt {l1 : Int} {l2 : Int} {g : zi_M} {Q : Int → zi_M → Prop} (I : zk_I g) (p1 : 0 ≤ l1 ∧ l1 ≤ 399) (p2 : 1 ≤ l2 ∧ l2 ≤ 400) (hQ : ∀ v : Int, ((-1) ≤ v ∧ v ≤ 9999) → (∀ b : Int, zrn zdt (g 190) l2 l1 b → (b - l1 < 5 → v = zdec (g 190) l1 (b - l1).toNat) ∧ (5 ≤ b - l1 → v = -1)) → Q v g) : w_Tokens_numberAt l1 l2 g Q := by
  unfold w_Tokens_numberAt
  refine ⟨((400 - l1 : Int).toNat + 1), k_Tokens_numberAt_l5 (l1 := l1) (l2 := l2) I ⟨by omega, by omega⟩ ⟨by omega, by omega⟩ (fun b_5 => ?_) (fun k12 b_6 b_7 => ?_) hQ ((400 - l1 : Int).toNat + 1) ⟨by omega, by omega⟩ ⟨by omega, by omega⟩ (by omega) (by omega) (by omega) (by omega) (by omega) (by omega) (by omega) (by first | exact zal_j b9 (by unfold zdt; omega) | (intro j h0 h1; exfalso; omega)) (by first | exact zdec_s b10 (by omega) | exact zdec_i (by omega)) (by omega)⟩
  · exact hQ _ ⟨by omega, by omega⟩ (by intro b hb; first | exact znm_x (by apply_assumption; assumption) | exact znm_y (by apply_assumption; assumption))
  · exact hQ _ ⟨by omega, by omega⟩ (by intro b hb; first | exact znm_x (by apply_assumption; assumption) | exact znm_y (by apply_assumption; assumption))
