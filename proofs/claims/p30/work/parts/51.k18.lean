-- by program (wip/gen/mkz.py)
-- SpoutNews.keeps(I)I
def fr_S_keeps (a : Nat) (i : Int) : Prop := a = 186 ∨ a = 187 ∨ a = 188 ∨ (a = 180 ∧ i = 11)
set_option maxRecDepth 100000 in
set_option maxHeartbeats 400000 in
theorem k_S_keeps {l1 : Int} {g : zi_M} {Q : Int → zi_M → Prop} (I : zk_I g) (p1 : (-2147483648) ≤ l1 ∧ l1 ≤ 2147483647) (hQ : ∀ (v : Int) (g' : zi_M), zk_I g' → zk_fr fr_S_keeps g g' → ((-1) ≤ v ∧ v ≤ 16) → Q v g') : w_S_keeps l1 g Q := by
  unfold w_S_keeps
  refine ⟨⟨by omega, by omega⟩, ?_⟩
  refine ⟨fun c8 => ?_, fun c8 => ?_⟩
  · exact hQ _ _ I (zk_f0 _) ⟨by omega, by omega⟩
  · refine ⟨fun c7 => ?_, fun c7 => ?_⟩
    · refine k_Thought_makeOffers I (fun g3 I_1 F_2 => ?_)
      have F_3 : zk_fr fr_S_keeps g g3 := zk_ft (zk_f0 _) F_2 (by intro a i h; unfold fr_Thought_makeOffers at h; unfold fr_S_keeps; omega)
      refine ⟨fun c6 => ?_, fun c6 => ?_⟩
      · refine ⟨⟨by omega, by omega⟩, ?_⟩
        have m_4 : (-1) ≤ (g3 186 l1) ∧ (g3 186 l1) ≤ 3 := I_1 186 l1
        exact hQ _ _ I_1 F_3 ⟨by omega, by omega⟩
      · have m_5 : 0 ≤ (g3 180 11) ∧ (g3 180 11) ≤ 16 := I_1 180 11
        exact hQ _ _ I_1 F_3 ⟨by omega, by omega⟩
    · exact hQ _ _ I (zk_f0 _) ⟨by omega, by omega⟩
-- SpoutNewsModel.freeMason()I
set_option maxRecDepth 100000 in
set_option maxHeartbeats 400000 in
theorem k_M_freeMason_l11 {g : zi_M} (I : zk_I g) {l1 : Int} {K36 : Int → zi_M → Prop} {Q : Int → zi_M → Prop} (q1 : 0 ≤ l1 ∧ l1 ≤ 3) (hK36 : ∀ (k2 : Int), (0 ≤ k2 ∧ k2 ≤ 1) → K36 k2 g) (hQ : ∀ v : Int, ((-1) ≤ v ∧ v ≤ 3) → Q v g) : ∀ (n : Nat) {l2 : Int} {l3 : Int}, (0 ≤ l2 ∧ l2 ≤ 1) → (0 ≤ l3 ∧ l3 ≤ 4) → 4 - l3 < (n : Int) → w_M_freeMason_l11 l1 K36 Q n l2 l3 g
  | 0, l2, l3, b0, b1, hm => by exfalso; omega
  | n + 1, l2, l3, b0, b1, hm => by
    unfold w_M_freeMason_l11
    refine ⟨⟨by omega, by omega⟩, ?_⟩
    refine ⟨fun c7 => ?_, fun c7 => ?_⟩
    · exact hK36 _ ⟨by omega, by omega⟩
    · refine ⟨⟨by omega, by omega⟩, ?_⟩
      have m_1 : 0 ≤ (g 245 l3) ∧ (g 245 l3) ≤ 4 := I 245 l3
      refine ⟨⟨by omega, by omega⟩, ⟨by omega, by omega⟩, ?_⟩
      refine ⟨fun c6 => ?_, fun c6 => ?_⟩
      · exact k_M_freeMason_l11 I q1 hK36 hQ n ⟨by omega, by omega⟩ ⟨by omega, by omega⟩ (by omega)
      · exact k_M_freeMason_l11 I q1 hK36 hQ n ⟨by omega, by omega⟩ ⟨by omega, by omega⟩ (by omega)
set_option maxRecDepth 100000 in
set_option maxHeartbeats 400000 in
theorem k_M_freeMason_l2 {g : zi_M} (I : zk_I g) {K40 : Int → zi_M → Prop} {K48 : zi_M → Prop} {Q : Int → zi_M → Prop} (hK40 : ∀ (k1 : Int), (0 ≤ k1 ∧ k1 ≤ 3) → K40 k1 g) (hK48 : K48 g) (hQ : ∀ v : Int, ((-1) ≤ v ∧ v ≤ 3) → Q v g) : ∀ (n : Nat) {l1 : Int}, (0 ≤ l1 ∧ l1 ≤ 4) → 4 - l1 < (n : Int) → w_M_freeMason_l2 K40 K48 Q n l1 g
  | 0, l1, b0, hm => by exfalso; omega
  | n + 1, l1, b0, hm => by
    unfold w_M_freeMason_l2
    refine ⟨⟨by omega, by omega⟩, ?_⟩
    refine ⟨fun c13 => ?_, fun c13 => ?_⟩
    · exact hK48
    · refine ⟨((4 - 0).toNat + 1), k_M_freeMason_l11 (l1 := l1) I ⟨by omega, by omega⟩ (fun k8 b_2 => ?_) hQ ((4 - 0).toNat + 1) ⟨by omega, by omega⟩ ⟨by omega, by omega⟩ (by omega)⟩
      refine ⟨⟨by omega, by omega⟩, ?_⟩
      refine ⟨fun c11 => ?_, fun c11 => ?_⟩
      · exact k_M_freeMason_l2 I hK40 hK48 hQ n ⟨by omega, by omega⟩ (by omega)
      · exact hK40 _ ⟨by omega, by omega⟩
set_option maxRecDepth 100000 in
set_option maxHeartbeats 400000 in
theorem k_M_freeMason {g : zi_M} {Q : Int → zi_M → Prop} (I : zk_I g) (hQ : ∀ v : Int, ((-1) ≤ v ∧ v ≤ 3) → Q v g) : w_M_freeMason g Q := by
  unfold w_M_freeMason
  refine ⟨((4 - 0).toNat + 1), k_M_freeMason_l2 I (fun k14 b_3 => ?_) (?_) hQ ((4 - 0).toNat + 1) ⟨by omega, by omega⟩ (by omega)⟩
  · exact hQ _ ⟨by omega, by omega⟩
  · exact hQ _ ⟨by omega, by omega⟩
-- SpoutNewsModel.dearOf(II)I
set_option maxRecDepth 100000 in
set_option maxHeartbeats 400000 in
theorem k_M_dearOf {l1 : Int} {l2 : Int} {g : zi_M} {Q : Int → zi_M → Prop} (I : zk_I g) (p1 : (-1) ≤ l1) (p2 : 0 ≤ l2) (hQ : ∀ v : Int, (v = (g 244 ((4 * l1) + l2)) + l2) → Q v g) : w_M_dearOf l1 l2 g Q := by
  unfold w_M_dearOf
  refine ⟨⟨by omega, by omega⟩, ?_⟩
  have m_1 := zk_mason I (i := ((4 * l1) + l2))
  exact hQ _ (by intros; omega)
-- SpoutNewsModel.placeIn(II)I
set_option maxRecDepth 100000 in
set_option maxHeartbeats 400000 in
theorem k_M_placeIn {l1 : Int} {l2 : Int} {g : zi_M} {Q : Int → zi_M → Prop} (I : zk_I g) (p1 : 1 ≤ l1) (p2 : (-1) ≤ l2 ∧ l2 ≤ 3) (hQ : ∀ v : Int, (0 ≤ v) → Q v g) : w_M_placeIn l1 l2 g Q := by
  sorry
-- SpoutNewsModel.offers()I
def fr_M_offers (a : Nat) (i : Int) : Prop := a = 245 ∨ a = 246
set_option maxRecDepth 100000 in
set_option maxHeartbeats 400000 in
theorem k_M_offers {g : zi_M} {Q : Int → zi_M → Prop} (I : zk_I g) (hQ : ∀ (v : Int) (g' : zi_M), zk_I g' → zk_fr fr_M_offers g g' → (0 ≤ v) → Q v g') : w_M_offers g Q := by
  sorry
-- SpoutNewsModel.keeps(I)I
def fr_M_keeps (a : Nat) (i : Int) : Prop := a = 245 ∨ a = 246 ∨ (a = 214 ∧ i = 0)
set_option maxRecDepth 100000 in
set_option maxHeartbeats 400000 in
theorem k_M_keeps {l1 : Int} {g : zi_M} {Q : Int → zi_M → Prop} (I : zk_I g) (p1 : (-2147483648) ≤ l1 ∧ l1 ≤ 2147483647) (hQ : ∀ (v : Int) (g' : zi_M), zk_I g' → zk_fr fr_M_keeps g g' → ((-1) ≤ v) → Q v g') : w_M_keeps l1 g Q := by
  sorry
-- SpoutNewsModel.shareOf(II)I
set_option maxRecDepth 100000 in
set_option maxHeartbeats 400000 in
theorem k_M_shareOf_l12 {g : zi_M} (I : zk_I g) {l2 : Int} {K48 : Int → zi_M → Prop} {Q : Int → zi_M → Prop} (hK48 : ∀ (k3 : Int), K48 k3 g) (hQ : ∀ v : Int, Q v g) : ∀ (n : Nat) {l3 : Int} {l4 : Int} {l5 : Int}, ((-2147483648) ≤ l4 ∧ l4 ≤ 2147483647) → (0 ≤ l5 ∧ l5 ≤ 6) → 6 - l5 < (n : Int) → w_M_shareOf_l12 l2 K48 Q n l3 l4 l5 g
  | 0, l3, l4, l5, b0, b1, hm => by exfalso; omega
  | n + 1, l3, l4, l5, b0, b1, hm => by
    unfold w_M_shareOf_l12
    refine ⟨⟨by omega, by omega⟩, ?_⟩
    refine ⟨fun c10 => ?_, fun c10 => ?_⟩
    · exact hK48 _
    · refine ⟨⟨by omega, by omega⟩, ⟨by omega, by omega⟩, (by omega), ?_⟩
      refine ⟨(by omega), ?_⟩
      have m_1 := zi_tdiv_f (l4 * 10) l2
      have m_2 := zi_tmod_f (l4 * 10) l2
      exact k_M_shareOf_l12 I hK48 hQ n ⟨by omega, by omega⟩ ⟨by omega, by omega⟩ (by omega)
set_option maxRecDepth 100000 in
set_option maxHeartbeats 400000 in
theorem k_M_shareOf {l1 : Int} {l2 : Int} {g : zi_M} {Q : Int → zi_M → Prop} (I : zk_I g) (hQ : ∀ v : Int, Q v g) : w_M_shareOf l1 l2 g Q := by
  unfold w_M_shareOf
  refine ⟨⟨by omega, by omega⟩, ⟨by omega, by omega⟩, (by omega), ?_⟩
  refine ⟨(by omega), ?_⟩
  have m_3 := zi_tdiv_f l1 l2
  have m_4 := zi_tmod_f l1 l2
  refine ⟨((6 - 0).toNat + 1), k_M_shareOf_l12 (l2 := l2) I (fun k11 => ?_) hQ ((6 - 0).toNat + 1) ⟨by omega, by omega⟩ ⟨by omega, by omega⟩ (by omega)⟩
  exact hQ _
-- SpoutNewsModel.surmised(III)I
set_option maxRecDepth 100000 in
set_option maxHeartbeats 400000 in
theorem k_M_surmised {l1 : Int} {l2 : Int} {l3 : Int} {g : zi_M} {Q : Int → zi_M → Prop} (I : zk_I g) (p2 : 4 ≤ l2 ∧ l2 ≤ 6) (p3 : 4 ≤ l3 ∧ l3 ≤ 6) (hQ : ∀ v : Int, Q v g) : w_M_surmised l1 l2 l3 g Q := by
  unfold w_M_surmised
  refine k_M_shareOf I (fun v1 => ?_)
  exact hQ _
-- SpoutNewsModel.surmise(III)I
def fr_M_surmise (a : Nat) (i : Int) : Prop := (a = 214 ∧ i = 0)
set_option maxRecDepth 100000 in
set_option maxHeartbeats 400000 in
theorem k_M_surmise_l51 {l2 : Int} {K74 : Int → zi_M → Prop} {Q : Int → zi_M → Prop} {g0 : zi_M} (q2 : (-2147483648) ≤ l2 ∧ l2 ≤ 2147483647) (hK74 : ∀ (k4 : Int) (g : zi_M), zk_I g → zk_fr fr_M_surmise g0 g → K74 k4 g) (hQ : ∀ (v : Int) (g' : zi_M), zk_I g' → zk_fr fr_M_surmise g0 g' → Q v g') : ∀ (n : Nat) {l4 : Int} {l5 : Int} {g : zi_M}, zk_I g → zk_fr fr_M_surmise g0 g → (0 ≤ l5) → l2 - l5 < (n : Int) → w_M_surmise_l51 l2 K74 Q n l4 l5 g
  | 0, l4, l5, g, I, F, b0, hm => by exfalso; omega
  | n + 1, l4, l5, g, I, F, b0, hm => by
    unfold w_M_surmise_l51
    refine ⟨⟨by omega, by omega⟩, ⟨by omega, by omega⟩, ?_⟩
    refine ⟨fun c16 => ?_, fun c16 => ?_⟩
    · exact hK74 _ _ I F
    · refine k_M_surmised I ⟨by omega, by omega⟩ ⟨by omega, by omega⟩ (fun v13 => ?_)
      exact k_M_surmise_l51 q2 hK74 hQ n I F (by omega) (by omega)
set_option maxRecDepth 100000 in
set_option maxHeartbeats 400000 in
theorem k_M_surmise_l77 {l3 : Int} {K100 : Int → zi_M → Prop} {Q : Int → zi_M → Prop} {g0 : zi_M} (q3 : (-2147483648) ≤ l3 ∧ l3 ≤ 2147483647) (hK100 : ∀ (k4 : Int) (g : zi_M), zk_I g → zk_fr fr_M_surmise g0 g → K100 k4 g) (hQ : ∀ (v : Int) (g' : zi_M), zk_I g' → zk_fr fr_M_surmise g0 g' → Q v g') : ∀ (n : Nat) {l4 : Int} {l5 : Int} {g : zi_M}, zk_I g → zk_fr fr_M_surmise g0 g → (0 ≤ l5) → l3 - l5 < (n : Int) → w_M_surmise_l77 l3 K100 Q n l4 l5 g
  | 0, l4, l5, g, I, F, b0, hm => by exfalso; omega
  | n + 1, l4, l5, g, I, F, b0, hm => by
    unfold w_M_surmise_l77
    refine ⟨⟨by omega, by omega⟩, ⟨by omega, by omega⟩, ?_⟩
    refine ⟨fun c24 => ?_, fun c24 => ?_⟩
    · exact hK100 _ _ I F
    · refine k_M_surmised I ⟨by omega, by omega⟩ ⟨by omega, by omega⟩ (fun v21 => ?_)
      exact k_M_surmise_l77 q3 hK100 hQ n I F (by omega) (by omega)
set_option maxRecDepth 100000 in
set_option maxHeartbeats 400000 in
theorem k_M_surmise {l1 : Int} {l2 : Int} {l3 : Int} {g : zi_M} {Q : Int → zi_M → Prop} (I : zk_I g) (p1 : (-2147483648) ≤ l1 ∧ l1 ≤ 2147483647) (p2 : (-2147483648) ≤ l2 ∧ l2 ≤ 2147483647) (p3 : (-2147483648) ≤ l3 ∧ l3 ≤ 2147483647) (hQ : ∀ (v : Int) (g' : zi_M), zk_I g' → zk_fr fr_M_surmise g g' → Q v g') : w_M_surmise l1 l2 l3 g Q := by
  unfold w_M_surmise
  intro g1 e_1
  have I_2 : zk_I g1 := by rw [e_1]; exact zk_upd (L := (-2147483648)) (H := 2147483647) rfl rfl I ⟨by omega, by omega⟩
  have F_3 : zk_fr fr_M_surmise g g1 := by rw [e_1]; exact zk_fu (zk_f0 _) (by unfold fr_M_surmise; omega)
  refine k_M_isIn I_2 ⟨by omega, by omega⟩ ⟨by omega, by omega⟩ ⟨by omega, by omega⟩ (fun v2 b_4 b_5 b_6 => ?_)
  refine ⟨fun c31 => ?_, fun c31 => ?_⟩
  · exact hQ _ _ I_2 F_3
  · refine k_M_isIn I_2 ⟨by omega, by omega⟩ ⟨by omega, by omega⟩ ⟨by omega, by omega⟩ (fun v5 b_7 b_8 b_9 => ?_)
    refine ⟨fun c30 => ?_, fun c30 => ?_⟩
    · exact hQ _ _ I_2 F_3
    · refine k_M_isIn I_2 ⟨by omega, by omega⟩ ⟨by omega, by omega⟩ ⟨by omega, by omega⟩ (fun v8 b_10 b_11 b_12 => ?_)
      refine ⟨fun c29 => ?_, fun c29 => ?_⟩
      · refine ⟨((l2 - 0).toNat + 1), k_M_surmise_l51 (l2 := l2) ⟨by omega, by omega⟩ (fun k17 g18 I_13 F_14 => ?_) hQ ((l2 - 0).toNat + 1) I_2 F_3 (by omega) (by omega)⟩
        refine ⟨((l3 - 0).toNat + 1), k_M_surmise_l77 (l3 := l3) ⟨by omega, by omega⟩ (fun k25 g26 I_15 F_16 => ?_) hQ ((l3 - 0).toNat + 1) I_13 F_14 (by omega) (by omega)⟩
        exact hQ _ _ I_15 F_16
      · exact hQ _ _ I_2 F_3
-- SpoutNews.drought(I)I
def fr_S_drought (a : Nat) (i : Int) : Prop := a = 44 ∨ (a = 36 ∧ i = 10)
set_option maxRecDepth 100000 in
set_option maxHeartbeats 400000 in
theorem k_S_drought {l1 : Int} {g : zi_M} {Q : Int → zi_M → Prop} (I : zk_I g) (p1 : (-2147483648) ≤ l1 ∧ l1 ≤ 2147483647) (hQ : ∀ (v : Int) (g' : zi_M), zk_I g' → zk_fr fr_S_drought g g' → ((-1) ≤ v ∧ v ≤ 40) → Q v g') : w_S_drought l1 g Q := by
  unfold w_S_drought
  refine ⟨⟨by omega, by omega⟩, ?_⟩
  refine ⟨fun c10 => ?_, fun c10 => ?_⟩
  · refine ⟨fun c8 => ?_, fun c8 => ?_⟩
    · exact hQ _ _ I (zk_f0 _) ⟨by omega, by omega⟩
    · refine ⟨fun c7 => ?_, fun c7 => ?_⟩
      · exact hQ _ _ I (zk_f0 _) ⟨by omega, by omega⟩
      · have m_1 : 0 ≤ (g 36 10) ∧ (g 36 10) ≤ 40 := I 36 10
        refine ⟨⟨by omega, by omega⟩, ?_⟩
        refine ⟨fun c6 => ?_, fun c6 => ?_⟩
        · refine ⟨⟨by omega, by omega⟩, ?_⟩
          intro g4 e_2
          have I_3 : zk_I g4 := by rw [e_2]; exact zk_upd (L := 0) (H := 9) rfl rfl I ⟨by omega, by omega⟩
          have F_4 : zk_fr fr_S_drought g g4 := by rw [e_2]; exact zk_fu (zk_f0 _) (by unfold fr_S_drought; omega)
          have m_8 : 0 ≤ (g4 36 10) ∧ (g4 36 10) ≤ 40 := I_3 36 10
          have m_9 : g4 36 10 = g 36 10 := by rw [e_2]; exact zi_u_ne (by decide)
          intro g5 e_5
          have I_6 : zk_I g5 := by rw [e_5]; exact zk_upd (L := 0) (H := 40) rfl rfl I_3 ⟨by omega, by omega⟩
          have F_7 : zk_fr fr_S_drought g g5 := by rw [e_5]; exact zk_fu F_4 (by unfold fr_S_drought; omega)
          have m_10 : 0 ≤ (g5 36 10) ∧ (g5 36 10) ≤ 40 := I_6 36 10
          have m_11 : g5 36 10 = (g4 36 10) + 1 := by rw [e_5]; exact zi_u_eq
          exact hQ _ _ I_6 F_7 ⟨by omega, by omega⟩
        · exact hQ _ _ I (zk_f0 _) ⟨by omega, by omega⟩
  · intro g9 e_12
    have I_13 : zk_I g9 := by rw [e_12]; exact zk_upd (L := 0) (H := 40) rfl rfl I ⟨by omega, by omega⟩
    have F_14 : zk_fr fr_S_drought g g9 := by rw [e_12]; exact zk_fu (zk_f0 _) (by unfold fr_S_drought; omega)
    exact hQ _ _ I_13 F_14 ⟨by omega, by omega⟩
-- SpoutNewsModel.drought(I)I
def fr_M_drought (a : Nat) (i : Int) : Prop := a = 247 ∨ (a = 214 ∧ i = 0) ∨ (a = 214 ∧ i = 56)
set_option maxRecDepth 100000 in
set_option maxHeartbeats 400000 in
theorem k_M_drought {l1 : Int} {g : zi_M} {Q : Int → zi_M → Prop} (I : zk_I g) (p1 : (-2147483648) ≤ l1 ∧ l1 ≤ 2147483647) (hQ : ∀ (v : Int) (g' : zi_M), zk_I g' → zk_fr fr_M_drought g g' → ((-1) ≤ v ∧ v ≤ 40) → Q v g') : w_M_drought l1 g Q := by
  unfold w_M_drought
  intro g1 e_1
  have I_2 : zk_I g1 := by rw [e_1]; exact zk_upd (L := (-2147483648)) (H := 2147483647) rfl rfl I ⟨by omega, by omega⟩
  have F_3 : zk_fr fr_M_drought g g1 := by rw [e_1]; exact zk_fu (zk_f0 _) (by unfold fr_M_drought; omega)
  refine ⟨⟨by omega, by omega⟩, ?_⟩
  refine ⟨fun c13 => ?_, fun c13 => ?_⟩
  · refine k_M_isIn I_2 ⟨by omega, by omega⟩ ⟨by omega, by omega⟩ ⟨by omega, by omega⟩ (fun v3 b_4 b_5 b_6 => ?_)
    refine ⟨fun c11 => ?_, fun c11 => ?_⟩
    · exact hQ _ _ I_2 F_3 ⟨by omega, by omega⟩
    · have m_7 : 0 ≤ (g1 214 56) ∧ (g1 214 56) ≤ 40 := I_2 214 56
      have m_8 : g1 214 56 = g 214 56 := by rw [e_1]; exact zi_u_ni (by decide)
      have m_9 : 0 ≤ (g 214 56) ∧ (g 214 56) ≤ 40 := I 214 56
      refine ⟨⟨by omega, by omega⟩, ?_⟩
      refine ⟨fun c10 => ?_, fun c10 => ?_⟩
      · refine ⟨⟨by omega, by omega⟩, ?_⟩
        intro g8 e_10
        have I_11 : zk_I g8 := by rw [e_10]; exact zk_upd (L := 0) (H := 9) rfl rfl I_2 ⟨by omega, by omega⟩
        have F_12 : zk_fr fr_M_drought g g8 := by rw [e_10]; exact zk_fu F_3 (by unfold fr_M_drought; omega)
        have m_16 : 0 ≤ (g8 214 56) ∧ (g8 214 56) ≤ 40 := I_11 214 56
        have m_17 : g8 214 56 = g1 214 56 := by rw [e_10]; exact zi_u_ne (by decide)
        intro g9 e_13
        have I_14 : zk_I g9 := by rw [e_13]; exact zk_upd (L := 0) (H := 40) rfl rfl I_11 ⟨by omega, by omega⟩
        have F_15 : zk_fr fr_M_drought g g9 := by rw [e_13]; exact zk_fu F_12 (by unfold fr_M_drought; omega)
        have m_18 : 0 ≤ (g9 214 56) ∧ (g9 214 56) ≤ 40 := I_14 214 56
        have m_19 : g9 214 56 = (g8 214 56) + 1 := by rw [e_13]; exact zi_u_eq
        exact hQ _ _ I_14 F_15 ⟨by omega, by omega⟩
      · exact hQ _ _ I_2 F_3 ⟨by omega, by omega⟩
  · intro g12 e_20
    have I_21 : zk_I g12 := by rw [e_20]; exact zk_upd (L := 0) (H := 40) rfl rfl I_2 ⟨by omega, by omega⟩
    have F_22 : zk_fr fr_M_drought g g12 := by rw [e_20]; exact zk_fu F_3 (by unfold fr_M_drought; omega)
    exact hQ _ _ I_21 F_22 ⟨by omega, by omega⟩
-- SpoutNews$Told.longestRunBegins()I
set_option maxRecDepth 100000 in
set_option maxHeartbeats 400000 in
theorem k_Told_longestRunBegins_b35 {l1 : Int} {l2 : Int} {l4 : Int} {s0 : Int} {H : Int → Int → Int → Int → zi_M → Prop} {K56 : Int → zi_M → Prop} {Q : Int → zi_M → Prop} {g : zi_M} (I : zk_I g) (p1 : 0 ≤ l1) (p2 : l2 ≤ 39) (p4 : 0 ≤ l4 ∧ l4 ≤ 39) (ps0 : 0 ≤ s0) (M : Int) (hM : 40 - l4 ≤ M) (hH : ∀ (m1 : Int) (m2 : Int) (m3 : Int) (m4 : Int), (0 ≤ m1) → (m2 ≤ 39) → (0 ≤ m3) → (0 ≤ m4 ∧ m4 ≤ 40) → 40 - m4 < M → H m1 m2 m3 m4 g) (hK56 : ∀ (k2 : Int), (k2 ≤ 39) → K56 k2 g) (hQ : ∀ v : Int, (v ≤ 39) → Q v g) : w_Told_longestRunBegins_b35 l1 l2 l4 s0 g H K56 Q := by
  unfold w_Told_longestRunBegins_b35
  refine ⟨⟨by omega, by omega⟩, ⟨by omega, by omega⟩, ?_⟩
  refine ⟨fun c7 => ?_, fun c7 => ?_⟩
  · exact hH _ _ _ _ (by omega) (by omega) (by omega) ⟨by omega, by omega⟩ (by omega)
  · exact hH _ _ _ _ (by omega) (by omega) (by omega) ⟨by omega, by omega⟩ (by omega)
set_option maxRecDepth 100000 in
set_option maxHeartbeats 400000 in
theorem k_Told_longestRunBegins_l9 {g : zi_M} (I : zk_I g) {K56 : Int → zi_M → Prop} {Q : Int → zi_M → Prop} (hK56 : ∀ (k2 : Int), (k2 ≤ 39) → K56 k2 g) (hQ : ∀ v : Int, (v ≤ 39) → Q v g) : ∀ (n : Nat) {l1 : Int} {l2 : Int} {l3 : Int} {l4 : Int}, (0 ≤ l1) → (l2 ≤ 39) → (0 ≤ l3) → (0 ≤ l4 ∧ l4 ≤ 40) → 40 - l4 < (n : Int) → w_Told_longestRunBegins_l9 K56 Q n l1 l2 l3 l4 g
  | 0, l1, l2, l3, l4, b0, b1, b2, b3, hm => by exfalso; omega
  | n + 1, l1, l2, l3, l4, b0, b1, b2, b3, hm => by
    unfold w_Told_longestRunBegins_l9
    have m_1 : 0 ≤ (g 36 10) ∧ (g 36 10) ≤ 40 := I 36 10
    refine ⟨⟨by omega, by omega⟩, ⟨by omega, by omega⟩, ?_⟩
    refine ⟨fun c9 => ?_, fun c9 => ?_⟩
    · exact hK56 _ (by omega)
    · refine ⟨⟨by omega, by omega⟩, ?_⟩
      have m_2 : 0 ≤ (g 44 l4) ∧ (g 44 l4) ≤ 9 := I 44 l4
      refine ⟨⟨by omega, by omega⟩, ?_⟩
      refine ⟨fun c8 => ?_, fun c8 => ?_⟩
      · exact k_Told_longestRunBegins_b35 I (by omega) (by omega) ⟨by omega, by omega⟩ (by omega) (n : Int) (by omega) (fun _ _ _ _ b0 b1 b2 b3 hm => k_Told_longestRunBegins_l9 I hK56 hQ n b0 b1 b2 b3 hm) hK56 hQ
      · exact k_Told_longestRunBegins_b35 I (by omega) (by omega) ⟨by omega, by omega⟩ (by omega) (n : Int) (by omega) (fun _ _ _ _ b0 b1 b2 b3 hm => k_Told_longestRunBegins_l9 I hK56 hQ n b0 b1 b2 b3 hm) hK56 hQ
set_option maxRecDepth 100000 in
set_option maxHeartbeats 400000 in
theorem k_Told_longestRunBegins {g : zi_M} {Q : Int → zi_M → Prop} (I : zk_I g) (hQ : ∀ v : Int, (v ≤ 39) → Q v g) : w_Told_longestRunBegins g Q := by
  unfold w_Told_longestRunBegins
  refine ⟨((40 - 0).toNat + 1), k_Told_longestRunBegins_l9 I (fun k10 b_3 => ?_) hQ ((40 - 0).toNat + 1) (by omega) (by omega) (by omega) ⟨by omega, by omega⟩ (by omega)⟩
  exact hQ _ (by omega)
-- SpoutNews$Told.longestRun()I
set_option maxRecDepth 100000 in
set_option maxHeartbeats 400000 in
theorem k_Told_longestRun_l9 {g : zi_M} (I : zk_I g) {K39 : Int → zi_M → Prop} {Q : Int → zi_M → Prop} (hK39 : ∀ (k2 : Int), (0 ≤ k2) → K39 k2 g) (hQ : ∀ v : Int, (0 ≤ v) → Q v g) : ∀ (n : Nat) {l2 : Int} {l3 : Int}, (0 ≤ l2) → (l3 ≤ 40) → 40 - l3 < (n : Int) → w_Told_longestRun_l9 K39 Q n l2 l3 g
  | 0, l2, l3, b0, b1, hm => by exfalso; omega
  | n + 1, l2, l3, b0, b1, hm => by
    unfold w_Told_longestRun_l9
    refine ⟨⟨by omega, by omega⟩, ?_⟩
    refine ⟨fun c10 => ?_, fun c10 => ?_⟩
    · exact hK39 _ (by omega)
    · have m_2 : 0 ≤ (g 36 10) ∧ (g 36 10) ≤ 40 := I 36 10
      refine ⟨⟨by omega, by omega⟩, ?_⟩
      refine ⟨fun c9 => ?_, fun c9 => ?_⟩
      · exact hK39 _ (by omega)
      · refine ⟨⟨by omega, by omega⟩, ?_⟩
        have m_3 : 0 ≤ (g 44 l3) ∧ (g 44 l3) ≤ 9 := I 44 l3
        refine ⟨⟨by omega, by omega⟩, ?_⟩
        refine ⟨fun c8 => ?_, fun c8 => ?_⟩
        · exact hK39 _ (by omega)
        · exact k_Told_longestRun_l9 I hK39 hQ n (by omega) (by omega) (by omega)
set_option maxRecDepth 100000 in
set_option maxHeartbeats 400000 in
theorem k_Told_longestRun {g : zi_M} {Q : Int → zi_M → Prop} (I : zk_I g) (hQ : ∀ v : Int, (0 ≤ v) → Q v g) : w_Told_longestRun g Q := by
  unfold w_Told_longestRun
  refine k_Told_longestRunBegins I (fun v1 b_1 => ?_)
  refine ⟨((40 - v1).toNat + 1), k_Told_longestRun_l9 I (fun k11 b_4 => ?_) hQ ((40 - v1).toNat + 1) (by omega) (by omega) (by omega)⟩
  exact hQ _ (by omega)
-- SpoutNews.longest(I)I
set_option maxRecDepth 100000 in
set_option maxHeartbeats 400000 in
theorem k_S_longest {l1 : Int} {g : zi_M} {Q : Int → zi_M → Prop} (I : zk_I g) (p1 : (-2147483648) ≤ l1 ∧ l1 ≤ 2147483647) (hQ : ∀ v : Int, Q v g) : w_S_longest l1 g Q := by
  unfold w_S_longest
  refine ⟨⟨by omega, by omega⟩, ?_⟩
  refine ⟨fun c2_0 c2_1 => ?_, fun c2 => ?_, fun c2 => ?_⟩
  · exact hQ _
  · refine k_Told_longestRun I (fun v3 b_1 => ?_)
    exact hQ _
  · refine k_Told_longestRunBegins I (fun v6 b_2 => ?_)
    exact hQ _
-- SpoutNewsModel.longest(I)I
def fr_M_longest (a : Nat) (i : Int) : Prop := (a = 214 ∧ i = 0)
set_option maxRecDepth 100000 in
set_option maxHeartbeats 400000 in
theorem k_M_longest_b53 {l3 : Int} {l4 : Int} {l5 : Int} {s0 : Int} {H : Int → Int → Int → Int → zi_M → Prop} {K78 : Int → Int → zi_M → Prop} {Q : Int → zi_M → Prop} {g : zi_M} {g0 : zi_M} (I : zk_I g) (F : zk_fr fr_M_longest g0 g) (p3 : 0 ≤ l3) (p4 : l4 ≤ 39) (p5 : 0 ≤ l5 ∧ l5 ≤ 39) (ps0 : 0 ≤ s0) (M : Int) (hM : 40 - l5 ≤ M) (hH : ∀ (m2 : Int) (m3 : Int) (m4 : Int) (m5 : Int) (g : zi_M), zk_I g → zk_fr fr_M_longest g0 g → (0 ≤ m2) → (0 ≤ m3) → (m4 ≤ 39) → (0 ≤ m5 ∧ m5 ≤ 40) → 40 - m5 < M → H m2 m3 m4 m5 g) (hK78 : ∀ (k3 : Int) (k4 : Int) (g : zi_M), zk_I g → zk_fr fr_M_longest g0 g → (0 ≤ k3) → (k4 ≤ 39) → K78 k3 k4 g) (hQ : ∀ (v : Int) (g' : zi_M), zk_I g' → zk_fr fr_M_longest g0 g' → Q v g') : w_M_longest_b53 l3 l4 l5 s0 g H K78 Q := by
  unfold w_M_longest_b53
  refine ⟨⟨by omega, by omega⟩, ⟨by omega, by omega⟩, ?_⟩
  refine ⟨fun c11 => ?_, fun c11 => ?_⟩
  · exact hH _ _ _ _ _ I F (by omega) (by omega) (by omega) ⟨by omega, by omega⟩ (by omega)
  · exact hH _ _ _ _ _ I F (by omega) (by omega) (by omega) ⟨by omega, by omega⟩ (by omega)
set_option maxRecDepth 100000 in
set_option maxHeartbeats 400000 in
theorem k_M_longest_l27 {K78 : Int → Int → zi_M → Prop} {Q : Int → zi_M → Prop} {g0 : zi_M} (hK78 : ∀ (k3 : Int) (k4 : Int) (g : zi_M), zk_I g → zk_fr fr_M_longest g0 g → (0 ≤ k3) → (k4 ≤ 39) → K78 k3 k4 g) (hQ : ∀ (v : Int) (g' : zi_M), zk_I g' → zk_fr fr_M_longest g0 g' → Q v g') : ∀ (n : Nat) {l2 : Int} {l3 : Int} {l4 : Int} {l5 : Int} {g : zi_M}, zk_I g → zk_fr fr_M_longest g0 g → (0 ≤ l2) → (0 ≤ l3) → (l4 ≤ 39) → (0 ≤ l5 ∧ l5 ≤ 40) → 40 - l5 < (n : Int) → w_M_longest_l27 K78 Q n l2 l3 l4 l5 g
  | 0, l2, l3, l4, l5, g, I, F, b0, b1, b2, b3, hm => by exfalso; omega
  | n + 1, l2, l3, l4, l5, g, I, F, b0, b1, b2, b3, hm => by
    unfold w_M_longest_l27
    have m_7 : 0 ≤ (g 214 56) ∧ (g 214 56) ≤ 40 := I 214 56
    refine ⟨⟨by omega, by omega⟩, ⟨by omega, by omega⟩, ?_⟩
    refine ⟨fun c13 => ?_, fun c13 => ?_⟩
    · exact hK78 _ _ _ I F (by omega) (by omega)
    · refine ⟨⟨by omega, by omega⟩, ?_⟩
      have m_8 : 0 ≤ (g 247 l5) ∧ (g 247 l5) ≤ 9 := I 247 l5
      refine ⟨⟨by omega, by omega⟩, ?_⟩
      refine ⟨fun c12 => ?_, fun c12 => ?_⟩
      · exact k_M_longest_b53 I F (by omega) (by omega) ⟨by omega, by omega⟩ (by omega) (n : Int) (by omega) (fun _ _ _ _ _ I F b0 b1 b2 b3 hm => k_M_longest_l27 hK78 hQ n I F b0 b1 b2 b3 hm) hK78 hQ
      · exact k_M_longest_b53 I F (by omega) (by omega) ⟨by omega, by omega⟩ (by omega) (n : Int) (by omega) (fun _ _ _ _ _ I F b0 b1 b2 b3 hm => k_M_longest_l27 hK78 hQ n I F b0 b1 b2 b3 hm) hK78 hQ
set_option maxRecDepth 100000 in
set_option maxHeartbeats 400000 in
theorem k_M_longest {l1 : Int} {g : zi_M} {Q : Int → zi_M → Prop} (I : zk_I g) (p1 : (-2147483648) ≤ l1 ∧ l1 ≤ 2147483647) (hQ : ∀ (v : Int) (g' : zi_M), zk_I g' → zk_fr fr_M_longest g g' → Q v g') : w_M_longest l1 g Q := by
  unfold w_M_longest
  intro g1 e_1
  have I_2 : zk_I g1 := by rw [e_1]; exact zk_upd (L := (-2147483648)) (H := 2147483647) rfl rfl I ⟨by omega, by omega⟩
  have F_3 : zk_fr fr_M_longest g g1 := by rw [e_1]; exact zk_fu (zk_f0 _) (by unfold fr_M_longest; omega)
  refine k_M_isIn I_2 ⟨by omega, by omega⟩ ⟨by omega, by omega⟩ ⟨by omega, by omega⟩ (fun v2 b_4 b_5 b_6 => ?_)
  refine ⟨fun c20 => ?_, fun c20 => ?_⟩
  · refine ⟨((40 - 0).toNat + 1), k_M_longest_l27 (fun k14 k15 g16 I_9 F_10 b_11 b_12 => ?_) hQ ((40 - 0).toNat + 1) I_2 F_3 (by omega) (by omega) (by omega) ⟨by omega, by omega⟩ (by omega)⟩
    refine ⟨⟨by omega, by omega⟩, ?_⟩
    refine ⟨fun c18 => ?_, fun c18 => ?_⟩
    · exact hQ _ _ I_9 F_10
    · exact hQ _ _ I_9 F_10
  · exact hQ _ _ I_2 F_3
-- SpoutNews$Thought.centuries(LSpoutNews$World;I)I
set_option maxRecDepth 100000 in
set_option maxHeartbeats 400000 in
theorem k_Thought_centuries_l26 {g : zi_M} (I : zk_I g) {l1 : Int} {K60 : Int → zi_M → Prop} {Q : Int → zi_M → Prop} (q1 : 1 ≤ l1 ∧ l1 ≤ 99) (hK60 : ∀ (k5 : Int), (0 ≤ k5) → K60 k5 g) (hQ : ∀ v : Int, (0 ≤ v) → Q v g) : ∀ (n : Nat) {l4 : Int} {l5 : Int} {l6 : Int}, (0 ≤ l4 ∧ l4 ≤ 108) → (0 ≤ l5) → (0 ≤ l6 ∧ l6 ≤ 99) → 99 - l6 < (n : Int) → w_Thought_centuries_l26 l1 K60 Q n l4 l5 l6 g
  | 0, l4, l5, l6, b0, b1, b2, hm => by exfalso; omega
  | n + 1, l4, l5, l6, b0, b1, b2, hm => by
    unfold w_Thought_centuries_l26
    refine ⟨⟨by omega, by omega⟩, ?_⟩
    refine ⟨fun c8 => ?_, fun c8 => ?_⟩
    · exact hK60 _ (by omega)
    · refine ⟨⟨by omega, by omega⟩, ⟨by omega, by omega⟩, ?_⟩
      refine ⟨fun c7 => ?_, fun c7 => ?_⟩
      · exact hK60 _ (by omega)
      · have m_2 := zi_tdiv_f l4 10
        have m_3 := zi_tdiv_c l4 10 (by decide)
        exact k_Thought_centuries_l26 I q1 hK60 hQ n ⟨by omega, by omega⟩ (by omega) ⟨by omega, by omega⟩ (by omega)
set_option maxRecDepth 100000 in
set_option maxHeartbeats 400000 in
theorem k_Thought_centuries_l4 {g : zi_M} (I : zk_I g) {l1 : Int} {K73 : Int → zi_M → Prop} {Q : Int → zi_M → Prop} (q1 : 1 ≤ l1 ∧ l1 ≤ 99) (hK73 : ∀ (k2 : Int), (0 ≤ k2) → K73 k2 g) (hQ : ∀ v : Int, (0 ≤ v) → Q v g) : ∀ (n : Nat) {l2 : Int} {l3 : Int}, (0 ≤ l2) → (0 ≤ l3 ∧ l3 ≤ 10) → 10 - l3 < (n : Int) → w_Thought_centuries_l4 l1 K73 Q n l2 l3 g
  | 0, l2, l3, b0, b1, hm => by exfalso; omega
  | n + 1, l2, l3, b0, b1, hm => by
    unfold w_Thought_centuries_l4
    have m_1 : 0 ≤ (g 2 8) ∧ (g 2 8) ≤ 10 := I 2 8
    refine ⟨⟨by omega, by omega⟩, ⟨by omega, by omega⟩, ?_⟩
    refine ⟨fun c14 => ?_, fun c14 => ?_⟩
    · exact hK73 _ (by omega)
    · refine ⟨⟨by omega, by omega⟩, ?_⟩
      have m_5 : 0 ≤ (g 5 l3) ∧ (g 5 l3) ≤ 99 := I 5 l3
      refine ⟨((99 - 0).toNat + 1), k_Thought_centuries_l26 (l1 := l1) I ⟨by omega, by omega⟩ (fun k9 b_4 => ?_) hQ ((99 - 0).toNat + 1) ⟨by omega, by omega⟩ (by omega) ⟨by omega, by omega⟩ (by omega)⟩
      refine ⟨⟨by omega, by omega⟩, ⟨by omega, by omega⟩, ?_⟩
      exact k_Thought_centuries_l4 I q1 hK73 hQ n (by omega) ⟨by omega, by omega⟩ (by omega)
set_option maxRecDepth 100000 in
set_option maxHeartbeats 400000 in
theorem k_Thought_centuries {l1 : Int} {g : zi_M} {Q : Int → zi_M → Prop} (I : zk_I g) (p1 : 1 ≤ l1 ∧ l1 ≤ 99) (hQ : ∀ v : Int, (0 ≤ v) → Q v g) : w_Thought_centuries l1 g Q := by
  unfold w_Thought_centuries
  refine ⟨((10 - 0).toNat + 1), k_Thought_centuries_l4 (l1 := l1) I ⟨by omega, by omega⟩ (fun k15 b_6 => ?_) hQ ((10 - 0).toNat + 1) (by omega) ⟨by omega, by omega⟩ (by omega)⟩
  exact hQ _ (by omega)
-- SpoutNews.leans(I)I
set_option maxRecDepth 100000 in
set_option maxHeartbeats 400000 in
theorem k_S_leans {l1 : Int} {g : zi_M} {Q : Int → zi_M → Prop} (I : zk_I g) (p1 : (-2147483648) ≤ l1 ∧ l1 ≤ 2147483647) (hQ : ∀ v : Int, ((-1) ≤ v) → Q v g) : w_S_leans l1 g Q := by
  unfold w_S_leans
  refine ⟨⟨by omega, by omega⟩, ?_⟩
  refine ⟨fun c6 => ?_, fun c6 => ?_⟩
  · exact hQ _ (by omega)
  · refine ⟨fun c5 => ?_, fun c5 => ?_⟩
    · refine k_Thought_centuries I ⟨by omega, by omega⟩ (fun v2 b_1 => ?_)
      exact hQ _ (by omega)
    · exact hQ _ (by omega)
-- SpoutNewsModel.leansFrom(II)I
set_option maxRecDepth 100000 in
set_option maxHeartbeats 400000 in
theorem k_M_leansFrom_l5 {g : zi_M} (I : zk_I g) {l2 : Int} {K30 : Int → zi_M → Prop} {Q : Int → zi_M → Prop} (q2 : 1 ≤ l2 ∧ l2 ≤ 99) (hK30 : ∀ (k3 : Int), (0 ≤ k3) → K30 k3 g) (hQ : ∀ v : Int, (0 ≤ v) → Q v g) : ∀ (n : Nat) {l3 : Int} {l4 : Int}, (0 ≤ l3) → (0 ≤ l4 ∧ l4 ≤ 108) → max (l2 - l4) 0 < (n : Int) → w_M_leansFrom_l5 l2 K30 Q n l3 l4 g
  | 0, l3, l4, b0, b1, hm => by exfalso; omega
  | n + 1, l3, l4, b0, b1, hm => by
    unfold w_M_leansFrom_l5
    refine ⟨⟨by omega, by omega⟩, ⟨by omega, by omega⟩, ?_⟩
    refine ⟨fun c3 => ?_, fun c3 => ?_⟩
    · exact hK30 _ (by omega)
    · have m_1 := zi_tdiv_f l4 10
      have m_2 := zi_tdiv_c l4 10 (by decide)
      exact k_M_leansFrom_l5 I q2 hK30 hQ n (by omega) ⟨by omega, by omega⟩ (by omega)
set_option maxRecDepth 100000 in
set_option maxHeartbeats 400000 in
theorem k_M_leansFrom {l1 : Int} {l2 : Int} {g : zi_M} {Q : Int → zi_M → Prop} (I : zk_I g) (p1 : 0 ≤ l1 ∧ l1 ≤ 99) (p2 : 1 ≤ l2 ∧ l2 ≤ 99) (hQ : ∀ v : Int, (0 ≤ v) → Q v g) : w_M_leansFrom l1 l2 g Q := by
  unfold w_M_leansFrom
  refine ⟨((max (l2 - l1) 0).toNat + 1), k_M_leansFrom_l5 (l2 := l2) I ⟨by omega, by omega⟩ (fun k4 b_3 => ?_) hQ ((max (l2 - l1) 0).toNat + 1) (by omega) ⟨by omega, by omega⟩ (by omega)⟩
  exact hQ _ (by omega)
-- SpoutNewsModel.leans(I)I
def fr_M_leans (a : Nat) (i : Int) : Prop := (a = 214 ∧ i = 0)
set_option maxRecDepth 100000 in
set_option maxHeartbeats 400000 in
theorem k_M_leans_l22 {l1 : Int} {K53 : Int → zi_M → Prop} {Q : Int → zi_M → Prop} {g0 : zi_M} (q1 : (-2147483648) ≤ l1 ∧ l1 ≤ 2147483647) (hK53 : ∀ (k2 : Int) (g : zi_M), zk_I g → zk_fr fr_M_leans g0 g → ((-2147483648) ≤ k2 ∧ k2 ≤ 2147483647) → K53 k2 g) (hQ : ∀ (v : Int) (g' : zi_M), zk_I g' → zk_fr fr_M_leans g0 g' → ((-2147483648) ≤ v ∧ v ≤ 2147483647) → Q v g') : ∀ (n : Nat) {l2 : Int} {l3 : Int} {g : zi_M}, zk_I g → zk_fr fr_M_leans g0 g → ((-2147483648) ≤ l2 ∧ l2 ≤ 2147483647) → (0 ≤ l3 ∧ l3 ≤ 10) → 10 - l3 < (n : Int) → w_M_leans_l22 l1 K53 Q n l2 l3 g
  | 0, l2, l3, g, I, F, b0, b1, hm => by exfalso; omega
  | n + 1, l2, l3, g, I, F, b0, b1, hm => by
    unfold w_M_leans_l22
    have m_7 : 0 ≤ (g 214 6) ∧ (g 214 6) ≤ 10 := I 214 6
    refine ⟨⟨by omega, by omega⟩, ⟨by omega, by omega⟩, ?_⟩
    refine ⟨fun c14 => ?_, fun c14 => ?_⟩
    · exact hK53 _ _ I F ⟨by omega, by omega⟩
    · refine ⟨⟨by omega, by omega⟩, ?_⟩
      have m_8 : 0 ≤ (g 220 l3) ∧ (g 220 l3) ≤ 99 := I 220 l3
      refine k_M_leansFrom I ⟨by omega, by omega⟩ ⟨by omega, by omega⟩ (fun v8 b_9 => ?_)
      refine k_M_greater I ⟨by omega, by omega⟩ ⟨by omega, by omega⟩ (fun v11 b_10 b_11 => ?_)
      exact k_M_leans_l22 q1 hK53 hQ n I F ⟨by omega, by omega⟩ ⟨by omega, by omega⟩ (by omega)
set_option maxRecDepth 100000 in
set_option maxHeartbeats 400000 in
theorem k_M_leans {l1 : Int} {g : zi_M} {Q : Int → zi_M → Prop} (I : zk_I g) (p1 : (-2147483648) ≤ l1 ∧ l1 ≤ 2147483647) (hQ : ∀ (v : Int) (g' : zi_M), zk_I g' → zk_fr fr_M_leans g g' → ((-2147483648) ≤ v ∧ v ≤ 2147483647) → Q v g') : w_M_leans l1 g Q := by
  unfold w_M_leans
  intro g1 e_1
  have I_2 : zk_I g1 := by rw [e_1]; exact zk_upd (L := (-2147483648)) (H := 2147483647) rfl rfl I ⟨by omega, by omega⟩
  have F_3 : zk_fr fr_M_leans g g1 := by rw [e_1]; exact zk_fu (zk_f0 _) (by unfold fr_M_leans; omega)
  refine k_M_isIn I_2 ⟨by omega, by omega⟩ ⟨by omega, by omega⟩ ⟨by omega, by omega⟩ (fun v2 b_4 b_5 b_6 => ?_)
  refine ⟨fun c18 => ?_, fun c18 => ?_⟩
  · refine ⟨((10 - 0).toNat + 1), k_M_leans_l22 (l1 := l1) ⟨by omega, by omega⟩ (fun k15 g16 I_12 F_13 b_14 => ?_) hQ ((10 - 0).toNat + 1) I_2 F_3 ⟨by omega, by omega⟩ ⟨by omega, by omega⟩ (by omega)⟩
    exact hQ _ _ I_12 F_13 ⟨by omega, by omega⟩
  · exact hQ _ _ I_2 F_3 ⟨by omega, by omega⟩
