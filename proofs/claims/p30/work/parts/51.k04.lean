-- by program (wip/gen/mkz.py)
-- SpoutNewsModel.lineOf(I)I
def fr_M_lineOf (a : Nat) (i : Int) : Prop := a = 236
set_option maxRecDepth 100000 in
set_option maxHeartbeats 400000 in
theorem k_M_lineOf_l2 {l1 : Int} {K57 : Int → zi_M → Prop} {K65 : zi_M → Prop} {Q : Int → zi_M → Prop} {g0 : zi_M} (q1 : 0 ≤ l1 ∧ l1 ≤ 2) (hK57 : ∀ (k2 : Int) (g : zi_M), zk_I g → zk_fr fr_M_lineOf g0 g → (0 ≤ k2 ∧ k2 ≤ 15) → K57 k2 g) (hK65 : ∀ (g : zi_M), zk_I g → zk_fr fr_M_lineOf g0 g → K65 g) (hQ : ∀ (v : Int) (g' : zi_M), zk_I g' → zk_fr fr_M_lineOf g0 g' → ((-1) ≤ v ∧ v ≤ 15) → Q v g') : ∀ (n : Nat) {l2 : Int} {g : zi_M}, zk_I g → zk_fr fr_M_lineOf g0 g → (0 ≤ l2 ∧ l2 ≤ 16) → 16 - l2 < (n : Int) → w_M_lineOf_l2 l1 K57 K65 Q n l2 g
  | 0, l2, g, I, F, b0, hm => by exfalso; omega
  | n + 1, l2, g, I, F, b0, hm => by
    unfold w_M_lineOf_l2
    have m_1 : 0 ≤ (g 224 0) ∧ (g 224 0) ≤ 16 := I 224 0
    refine ⟨⟨by omega, by omega⟩, ⟨by omega, by omega⟩, ?_⟩
    refine ⟨fun c15 => ?_, fun c15 => ?_⟩
    · exact hK65 _ I F
    · refine ⟨⟨by omega, by omega⟩, ?_⟩
      have m_2 : (-2147483648) ≤ (g 225 l2) ∧ (g 225 l2) ≤ 2147483647 := I 225 l2
      refine ⟨⟨by omega, by omega⟩, ⟨by omega, by omega⟩, ?_⟩
      refine ⟨fun c14 => ?_, fun c14 => ?_⟩
      · exact k_M_lineOf_l2 q1 hK57 hK65 hQ n I F ⟨by omega, by omega⟩ (by omega)
      · have m_3 : 0 ≤ (g 227 l2) ∧ (g 227 l2) ≤ 400 := I 227 l2
        have m_4 : 0 ≤ (g 228 l2) ∧ (g 228 l2) ≤ 400 := I 228 l2
        refine ⟨⟨by omega, by omega⟩, ⟨by omega, by omega⟩, ?_⟩
        refine ⟨fun c13 => ?_, fun c13 => ?_⟩
        · exact hK57 _ _ I F ⟨by omega, by omega⟩
        · refine k_M_runs I ⟨by omega, by omega⟩ ⟨by omega, by omega⟩ ⟨by omega, by omega⟩ (fun v8 g9 I_6 F_7 b_5 => ?_)
          have F_8 : zk_fr fr_M_lineOf g0 g9 := zk_ft F F_7 (by intro a i h; unfold fr_M_runs at h; unfold fr_M_lineOf; omega)
          refine ⟨⟨by omega, by omega⟩, ?_⟩
          refine ⟨fun c12 => ?_, fun c12 => ?_⟩
          · exact k_M_lineOf_l2 q1 hK57 hK65 hQ n I_6 F_8 ⟨by omega, by omega⟩ (by omega)
          · exact hK57 _ _ I_6 F_8 ⟨by omega, by omega⟩
set_option maxRecDepth 100000 in
set_option maxHeartbeats 400000 in
theorem k_M_lineOf {l1 : Int} {g : zi_M} {Q : Int → zi_M → Prop} (I : zk_I g) (p1 : 0 ≤ l1 ∧ l1 ≤ 2) (hQ : ∀ (v : Int) (g' : zi_M), zk_I g' → zk_fr fr_M_lineOf g g' → ((-1) ≤ v ∧ v ≤ 15) → Q v g') : w_M_lineOf l1 g Q := by
  unfold w_M_lineOf
  refine ⟨((16 - 0).toNat + 1), k_M_lineOf_l2 (l1 := l1) ⟨by omega, by omega⟩ (fun k16 g17 I_9 F_10 b_11 => ?_) (fun g18 I_12 F_13 => ?_) hQ ((16 - 0).toNat + 1) I (zk_f0 _) ⟨by omega, by omega⟩ (by omega)⟩
  · exact hQ _ _ I_9 F_10 ⟨by omega, by omega⟩
  · exact hQ _ _ I_12 F_13 ⟨by omega, by omega⟩
-- SpoutNewsModel.held(III)I
set_option maxRecDepth 100000 in
set_option maxHeartbeats 400000 in
theorem k_M_held {l1 : Int} {l2 : Int} {l3 : Int} {g : zi_M} {Q : Int → zi_M → Prop} (I : zk_I g) (p1 : (-2147483648) ≤ l1 ∧ l1 ≤ 2147483647) (p2 : 0 ≤ l2 ∧ l2 ≤ 0) (p3 : 9 ≤ l3 ∧ l3 ≤ 1000) (hQ : ∀ v : Int, (l2 ≤ l1 → l1 ≤ l3 → v = l1) → (l2 ≤ l1 → l3 < l1 → v = l3) → (l1 < l2 → v = l2) → Q v g) : w_M_held l1 l2 l3 g Q := by
  unfold w_M_held
  refine ⟨⟨by omega, by omega⟩, ⟨by omega, by omega⟩, ?_⟩
  refine ⟨fun c5 => ?_, fun c5 => ?_⟩
  · refine ⟨⟨by omega, by omega⟩, ?_⟩
    refine ⟨fun c4 => ?_, fun c4 => ?_⟩
    · exact hQ _ (by intros; omega) (by intros; omega) (by intros; omega)
    · exact hQ _ (by intros; omega) (by intros; omega) (by intros; omega)
  · exact hQ _ (by intros; omega) (by intros; omega) (by intros; omega)
-- SpoutNewsModel.lawTells(III)I
def fr_M_lawTells (a : Nat) (i : Int) : Prop := a = 236
set_option maxRecDepth 100000 in
set_option maxHeartbeats 400000 in
theorem k_M_lawTells {l1 : Int} {l2 : Int} {l3 : Int} {g : zi_M} {Q : Int → zi_M → Prop} (I : zk_I g) (p1 : 0 ≤ l1 ∧ l1 ≤ 2) (p2 : (-2147483648) ≤ l2 ∧ l2 ≤ 2147483647) (p3 : 9 ≤ l3 ∧ l3 ≤ 1000) (hQ : ∀ (v : Int) (g' : zi_M), zk_I g' → zk_fr fr_M_lawTells g g' → (0 ≤ v ∧ v ≤ 1000) → Q v g') : w_M_lawTells l1 l2 l3 g Q := by
  unfold w_M_lawTells
  refine k_M_lineOf I ⟨by omega, by omega⟩ (fun v1 g2 I_2 F_3 b_1 => ?_)
  have F_4 : zk_fr fr_M_lawTells g g2 := zk_ft (zk_f0 _) F_3 (by intro a i h; unfold fr_M_lineOf at h; unfold fr_M_lawTells; omega)
  refine ⟨⟨by omega, by omega⟩, ?_⟩
  refine ⟨fun c15 => ?_, fun c15 => ?_⟩
  · refine ⟨⟨by omega, by omega⟩, ?_⟩
    have m_5 : 0 ≤ (g2 226 v1) ∧ (g2 226 v1) ≤ 400 := I_2 226 v1
    have m_6 : g2 226 v1 = g 226 v1 := F_3 _ _ (by unfold fr_M_lineOf; omega)
    have m_7 : 0 ≤ (g 226 v1) ∧ (g 226 v1) ≤ 400 := I 226 v1
    have m_8 : 0 ≤ (g2 227 v1) ∧ (g2 227 v1) ≤ 400 := I_2 227 v1
    have m_9 : g2 227 v1 = g 227 v1 := F_3 _ _ (by unfold fr_M_lineOf; omega)
    have m_10 : 0 ≤ (g 227 v1) ∧ (g 227 v1) ≤ 400 := I 227 v1
    refine k_M_runs I_2 ⟨by omega, by omega⟩ ⟨by omega, by omega⟩ ⟨by omega, by omega⟩ (fun v6 g7 I_12 F_13 b_11 => ?_)
    have F_14 : zk_fr fr_M_lawTells g g7 := zk_ft F_4 F_13 (by intro a i h; unfold fr_M_runs at h; unfold fr_M_lawTells; omega)
    refine k_M_held I_12 ⟨by omega, by omega⟩ ⟨by omega, by omega⟩ ⟨by omega, by omega⟩ (fun v9 b_15 b_16 b_17 => ?_)
    exact hQ _ _ I_12 F_14 ⟨by omega, by omega⟩
  · refine k_M_held I_2 ⟨by omega, by omega⟩ ⟨by omega, by omega⟩ ⟨by omega, by omega⟩ (fun v12 b_18 b_19 b_20 => ?_)
    exact hQ _ _ I_2 F_4 ⟨by omega, by omega⟩
-- SpoutNewsModel.hearsOf(I)I
def fr_M_hearsOf (a : Nat) (i : Int) : Prop := a = 235 ∨ a = 236
set_option maxRecDepth 100000 in
set_option maxHeartbeats 400000 in
theorem k_M_hearsOf {l1 : Int} {g : zi_M} {Q : Int → zi_M → Prop} (I : zk_I g) (p1 : 0 ≤ l1 ∧ l1 ≤ 9) (hQ : ∀ (v : Int) (g' : zi_M), zk_I g' → zk_fr fr_M_hearsOf g g' → (0 ≤ v ∧ v ≤ 1000) → Q v g') : w_M_hearsOf l1 g Q := by
  unfold w_M_hearsOf
  refine k_M_asks I ⟨by omega, by omega⟩ ⟨by omega, by omega⟩ (fun g2 I_1 F_2 => ?_)
  have F_3 : zk_fr fr_M_hearsOf g g2 := zk_ft (zk_f0 _) F_2 (by intro a i h; unfold fr_M_asks at h; unfold fr_M_hearsOf; omega)
  refine k_M_lawTells I_1 ⟨by omega, by omega⟩ ⟨by omega, by omega⟩ ⟨by omega, by omega⟩ (fun v4 g5 I_5 F_6 b_4 => ?_)
  have F_7 : zk_fr fr_M_hearsOf g g5 := zk_ft F_3 F_6 (by intro a i h; unfold fr_M_lawTells at h; unfold fr_M_hearsOf; omega)
  exact hQ _ _ I_5 F_7 ⟨by omega, by omega⟩
-- SpoutNewsModel.has(II)Z
set_option maxRecDepth 100000 in
set_option maxHeartbeats 400000 in
theorem k_M_has {l1 : Int} {l2 : Int} {g : zi_M} {Q : Int → zi_M → Prop} (I : zk_I g) (p1 : (-2147483648) ≤ l1 ∧ l1 ≤ 2147483647) (p2 : (-2147483648) ≤ l2 ∧ l2 ≤ 2147483647) (hQ : ∀ v : Int, (¬ (zi_and (zi_shr l1 l2) 1) = 1 → v = 0) → ((zi_and (zi_shr l1 l2) 1) = 1 → v = 1) → Q v g) : w_M_has l1 l2 g Q := by
  unfold w_M_has
  have m_1 := zi_shr_f l1 l2
  have m_2 := zi_and_f (zi_shr l1 l2) 1
  refine ⟨fun c1 => ?_, fun c1 => ?_⟩
  · exact hQ _ (by intros; omega) (by intros; omega)
  · exact hQ _ (by intros; omega) (by intros; omega)
-- SpoutNewsModel.heardAt(II)I
set_option maxRecDepth 100000 in
set_option maxHeartbeats 400000 in
theorem k_M_heardAt {l1 : Int} {l2 : Int} {g : zi_M} {Q : Int → zi_M → Prop} (I : zk_I g) (p1 : 0 ≤ l1 ∧ l1 ≤ 9) (p2 : 0 ≤ l2 ∧ l2 ≤ 19) (hQ : ∀ v : Int, (v = g 215 ((36 + (20 * l1)) + l2)) → Q v g) : w_M_heardAt l1 l2 g Q := by
  unfold w_M_heardAt
  refine ⟨⟨by omega, by omega⟩, ?_⟩
  have m_1 := zk_now36 I (i := ((36 + (20 * l1)) + l2)) (by omega)
  exact hQ _ (by intros; omega)
-- SpoutNewsModel.heardSet(I)I
set_option maxRecDepth 100000 in
set_option maxHeartbeats 400000 in
theorem k_M_heardSet_l4 {g : zi_M} (I : zk_I g) {l1 : Int} {K34 : Int → zi_M → Prop} {Q : Int → zi_M → Prop} (q1 : 0 ≤ l1 ∧ l1 ≤ 9) (hK34 : ∀ (k2 : Int), (0 ≤ k2 ∧ k2 ≤ 65535) → K34 k2 g) (hQ : ∀ v : Int, (0 ≤ v ∧ v ≤ 65535) → Q v g) : ∀ (n : Nat) {l2 : Int} {l3 : Int}, (0 ≤ l2 ∧ l2 ≤ 65535) → (0 ≤ l3 ∧ l3 ≤ 20) → 20 - l3 < (n : Int) → w_M_heardSet_l4 l1 K34 Q n l2 l3 g
  | 0, l2, l3, b0, b1, hm => by exfalso; omega
  | n + 1, l2, l3, b0, b1, hm => by
    unfold w_M_heardSet_l4
    refine ⟨⟨by omega, by omega⟩, ?_⟩
    have m_1 := zk_now26 I (i := (26 + l1)) (by omega)
    refine ⟨⟨by omega, by omega⟩, ⟨by omega, by omega⟩, ?_⟩
    refine ⟨fun c7 => ?_, fun c7 => ?_⟩
    · exact hK34 _ ⟨by omega, by omega⟩
    · have m_3 := zk_now36 I (i := ((36 + (20 * l1)) + l3)) (by omega)
      refine k_M_heardAt I ⟨by omega, by omega⟩ ⟨by omega, by omega⟩ (fun v4 b_2 => ?_)
      have m_4 := zi_shl_f v4
      have m_5 := zi_or_f l2 (zi_shl 1 v4)
      exact k_M_heardSet_l4 I q1 hK34 hQ n ⟨by omega, by omega⟩ ⟨by omega, by omega⟩ (by omega)
set_option maxRecDepth 100000 in
set_option maxHeartbeats 400000 in
theorem k_M_heardSet {l1 : Int} {g : zi_M} {Q : Int → zi_M → Prop} (I : zk_I g) (p1 : 0 ≤ l1 ∧ l1 ≤ 9) (hQ : ∀ v : Int, (0 ≤ v ∧ v ≤ 65535) → Q v g) : w_M_heardSet l1 g Q := by
  unfold w_M_heardSet
  refine ⟨((20 - 0).toNat + 1), k_M_heardSet_l4 (l1 := l1) I ⟨by omega, by omega⟩ (fun k8 b_6 => ?_) hQ ((20 - 0).toNat + 1) ⟨by omega, by omega⟩ ⟨by omega, by omega⟩ (by omega)⟩
  exact hQ _ ⟨by omega, by omega⟩
-- SpoutNewsModel.comesTo(II)Z
def fr_M_comesTo (a : Nat) (i : Int) : Prop := a = 215
set_option maxRecDepth 100000 in
set_option maxHeartbeats 400000 in
theorem k_M_comesTo {l1 : Int} {l2 : Int} {g : zi_M} {Q : Int → zi_M → Prop} (I : zk_I g) (p1 : 0 ≤ l1 ∧ l1 ≤ 9) (p2 : 0 ≤ l2 ∧ l2 ≤ 15) (hQ : ∀ (v : Int) (g' : zi_M), zk_I g' → zk_fr fr_M_comesTo g g' → (0 ≤ v ∧ v ≤ 1) → Q v g') : w_M_comesTo l1 l2 g Q := by
  unfold w_M_comesTo
  refine ⟨⟨by omega, by omega⟩, ?_⟩
  have m_1 := zk_now26 I (i := (26 + l1)) (by omega)
  refine ⟨⟨by omega, by omega⟩, ?_⟩
  refine ⟨fun c13 => ?_, fun c13 => ?_⟩
  · exact hQ _ _ I (zk_f0 _) ⟨by omega, by omega⟩
  · refine k_M_heardSet I ⟨by omega, by omega⟩ (fun v3 b_2 => ?_)
    have m_5 := zi_shr_f (v3) (l2)
    have m_6 := zi_and_f (zi_shr v3 l2) 1
    refine k_M_has I ⟨by omega, by omega⟩ ⟨by omega, by omega⟩ (fun v6 b_3 b_4 => ?_)
    refine ⟨fun c12 => ?_, fun c12 => ?_⟩
    · refine ⟨⟨by omega, by omega⟩, ?_⟩
      intro g10 e_7
      have I_8 : zk_I g10 := by rw [e_7]; exact zk_upd (zk_nl36 (i := (36 + (20 * l1)) + (g 215 (26 + l1))) (by omega)).1 (zk_nl36 (i := (36 + (20 * l1)) + (g 215 (26 + l1))) (by omega)).2 I ⟨by omega, by omega⟩
      have F_9 : zk_fr fr_M_comesTo g g10 := by rw [e_7]; exact zk_fu (zk_f0 _) (by unfold fr_M_comesTo; omega)
      have m_13 := zk_now26 I_8 (i := (26 + l1)) (by omega)
      intro g11 e_10
      have I_11 : zk_I g11 := by rw [e_10]; exact zk_upd (zk_nl26 (i := 26 + l1) (by omega)).1 (zk_nl26 (i := 26 + l1) (by omega)).2 I_8 ⟨by omega, by omega⟩
      have F_12 : zk_fr fr_M_comesTo g g11 := by rw [e_10]; exact zk_fu F_9 (by unfold fr_M_comesTo; omega)
      exact hQ _ _ I_11 F_12 ⟨by omega, by omega⟩
    · exact hQ _ _ I (zk_f0 _) ⟨by omega, by omega⟩
-- SpoutNewsModel.notes(III)V
def fr_M_notes (a : Nat) (i : Int) : Prop := a = 215 ∨ a = 221
set_option maxRecDepth 100000 in
set_option maxHeartbeats 400000 in
theorem k_M_notes {l1 : Int} {l2 : Int} {l3 : Int} {g : zi_M} {Q : Int → zi_M → Prop} (I : zk_I g) (p1 : 0 ≤ l1 ∧ l1 ≤ 2) (p2 : 0 ≤ l2 ∧ l2 ≤ 9) (p3 : 0 ≤ l3 ∧ l3 ≤ 15) (hQ : ∀ g' : zi_M, zk_I g' → zk_fr fr_M_notes g g' → Q 0 g') : w_M_notes l1 l2 l3 g Q := by
  unfold w_M_notes
  have m_1 : 0 ≤ (g 214 5) ∧ (g 214 5) ≤ 1 := I 214 5
  refine ⟨⟨by omega, by omega⟩, ?_⟩
  refine ⟨fun c13 => ?_, fun c13 => ?_⟩
  · exact hQ _ I (zk_f0 _)
  · have m_2 := zk_now2 I (i := 2) (by omega)
    refine ⟨⟨by omega, by omega⟩, ?_⟩
    refine ⟨fun c12 => ?_, fun c12 => ?_⟩
    · refine ⟨⟨by omega, by omega⟩, ?_⟩
      have m_6 := zk_rng I 215 0
      intro g4 e_3
      have I_4 : zk_I g4 := by rw [e_3]; exact zk_upd (L := (-2147483648)) (H := 2147483647) rfl rfl I ⟨by omega, by omega⟩
      have F_5 : zk_fr fr_M_notes g g4 := by rw [e_3]; exact zk_fu (zk_f0 _) (by unfold fr_M_notes; omega)
      refine ⟨⟨by omega, by omega⟩, ?_⟩
      intro g6 e_7
      have I_8 : zk_I g6 := by rw [e_7]; exact zk_upd (L := (-2147483648)) (H := 2147483647) rfl rfl I_4 ⟨by omega, by omega⟩
      have F_9 : zk_fr fr_M_notes g g6 := by rw [e_7]; exact zk_fu F_5 (by unfold fr_M_notes; omega)
      refine ⟨⟨by omega, by omega⟩, ?_⟩
      intro g8 e_10
      have I_11 : zk_I g8 := by rw [e_10]; exact zk_upd (L := (-2147483648)) (H := 2147483647) rfl rfl I_8 ⟨by omega, by omega⟩
      have F_12 : zk_fr fr_M_notes g g8 := by rw [e_10]; exact zk_fu F_9 (by unfold fr_M_notes; omega)
      refine ⟨⟨by omega, by omega⟩, ?_⟩
      intro g10 e_13
      have I_14 : zk_I g10 := by rw [e_13]; exact zk_upd (L := (-2147483648)) (H := 2147483647) rfl rfl I_11 ⟨by omega, by omega⟩
      have F_15 : zk_fr fr_M_notes g g10 := by rw [e_13]; exact zk_fu F_12 (by unfold fr_M_notes; omega)
      have m_19 := zk_now2 I_14 (i := 2) (by omega)
      have m_20 : g10 215 2 = g8 215 2 := by rw [e_13]; exact zi_u_ne (by decide)
      have m_21 := zk_now2 I_11 (i := 2) (by omega)
      have m_22 : g8 215 2 = g6 215 2 := by rw [e_10]; exact zi_u_ne (by decide)
      have m_23 := zk_now2 I_8 (i := 2) (by omega)
      have m_24 : g6 215 2 = g4 215 2 := by rw [e_7]; exact zi_u_ne (by decide)
      have m_25 := zk_now2 I_4 (i := 2) (by omega)
      have m_26 : g4 215 2 = g 215 2 := by rw [e_3]; exact zi_u_ne (by decide)
      intro g11 e_16
      have I_17 : zk_I g11 := by rw [e_16]; exact zk_upd (zk_nl2 (i := 2) (by omega)).1 (zk_nl2 (i := 2) (by omega)).2 I_14 ⟨by omega, by omega⟩
      have F_18 : zk_fr fr_M_notes g g11 := by rw [e_16]; exact zk_fu F_15 (by unfold fr_M_notes; omega)
      exact hQ _ I_17 F_18
    · exact hQ _ I (zk_f0 _)
-- SpoutNewsModel.hears(II)V
def fr_M_hears (a : Nat) (i : Int) : Prop := a = 215 ∨ a = 221 ∨ a = 235 ∨ a = 236
set_option maxRecDepth 100000 in
set_option maxHeartbeats 400000 in
theorem k_M_hears_l12 {l1 : Int} {l2 : Int} {l3 : Int} {K77 : zi_M → Prop} {Q : Int → zi_M → Prop} {g0 : zi_M} (q1 : 0 ≤ l1 ∧ l1 ≤ 9) (q2 : 0 ≤ l2 ∧ l2 ≤ 7) (q3 : 0 ≤ l3 ∧ l3 ≤ 1000) (hK77 : ∀ (g : zi_M), zk_I g → zk_fr fr_M_hears g0 g → K77 g) (hQ : ∀ g' : zi_M, zk_I g' → zk_fr fr_M_hears g0 g' → Q 0 g') : ∀ (n : Nat) {l4 : Int} {l5 : Int} {g : zi_M}, zk_I g → zk_fr fr_M_hears g0 g → (0 ≤ l4 ∧ l4 ≤ 1000) → (0 ≤ l5 ∧ l5 ≤ 16) → 16 - l5 < (n : Int) → w_M_hears_l12 l1 l2 l3 K77 Q n l4 l5 g
  | 0, l4, l5, g, I, F, b0, b1, hm => by exfalso; omega
  | n + 1, l4, l5, g, I, F, b0, b1, hm => by
    unfold w_M_hears_l12
    refine ⟨⟨by omega, by omega⟩, ?_⟩
    refine ⟨fun c20 => ?_, fun c20 => ?_⟩
    · exact hK77 _ I F
    · refine ⟨⟨by omega, by omega⟩, ⟨by omega, by omega⟩, ?_⟩
      refine ⟨fun c19 => ?_, fun c19 => ?_⟩
      · exact hK77 _ I F
      · refine ⟨⟨by omega, by omega⟩, ?_⟩
        have m_5 := zk_rng I 215 (236 + l2)
        have m_8 := zi_shr_f ((g 215 (236 + l2))) (l5)
        have m_9 := zi_and_f (zi_shr (g 215 (236 + l2)) l5) 1
        refine k_M_has I ⟨by omega, by omega⟩ ⟨by omega, by omega⟩ (fun v8 b_6 b_7 => ?_)
        refine ⟨fun c18 => ?_, fun c18 => ?_⟩
        · exact k_M_hears_l12 q1 q2 q3 hK77 hQ n I F ⟨by omega, by omega⟩ ⟨by omega, by omega⟩ (by omega)
        · refine k_M_comesTo I ⟨by omega, by omega⟩ ⟨by omega, by omega⟩ (fun v11 g12 I_11 F_12 b_10 => ?_)
          have F_13 : zk_fr fr_M_hears g0 g12 := zk_ft F F_12 (by intro a i h; unfold fr_M_comesTo at h; unfold fr_M_hears; omega)
          refine ⟨fun c17 => ?_, fun c17 => ?_⟩
          · refine k_M_notes I_11 ⟨by omega, by omega⟩ ⟨by omega, by omega⟩ ⟨by omega, by omega⟩ (fun g15 I_14 F_15 => ?_)
            have F_16 : zk_fr fr_M_hears g0 g15 := zk_ft F_13 F_15 (by intro a i h; unfold fr_M_notes at h; unfold fr_M_hears; omega)
            exact k_M_hears_l12 q1 q2 q3 hK77 hQ n I_14 F_16 ⟨by omega, by omega⟩ ⟨by omega, by omega⟩ (by omega)
          · exact k_M_hears_l12 q1 q2 q3 hK77 hQ n I_11 F_13 ⟨by omega, by omega⟩ ⟨by omega, by omega⟩ (by omega)
set_option maxRecDepth 100000 in
set_option maxHeartbeats 400000 in
theorem k_M_hears {l1 : Int} {l2 : Int} {g : zi_M} {Q : Int → zi_M → Prop} (I : zk_I g) (p1 : 0 ≤ l1 ∧ l1 ≤ 9) (p2 : 0 ≤ l2 ∧ l2 ≤ 7) (hQ : ∀ g' : zi_M, zk_I g' → zk_fr fr_M_hears g g' → Q 0 g') : w_M_hears l1 l2 g Q := by
  unfold w_M_hears
  refine k_M_hearsOf I ⟨by omega, by omega⟩ (fun v1 g2 I_2 F_3 b_1 => ?_)
  have F_4 : zk_fr fr_M_hears g g2 := zk_ft (zk_f0 _) F_3 (by intro a i h; unfold fr_M_hearsOf at h; unfold fr_M_hears; omega)
  refine ⟨((16 - 0).toNat + 1), k_M_hears_l12 (l1 := l1) (l2 := l2) (l3 := v1) ⟨by omega, by omega⟩ ⟨by omega, by omega⟩ ⟨by omega, by omega⟩ (fun g21 I_17 F_18 => ?_) hQ ((16 - 0).toNat + 1) I_2 F_4 ⟨by omega, by omega⟩ ⟨by omega, by omega⟩ (by omega)⟩
  exact hQ _ I_17 F_18
-- SpoutNewsModel.lesser(II)I
set_option maxRecDepth 100000 in
set_option maxHeartbeats 400000 in
theorem k_M_lesser {l1 : Int} {l2 : Int} {g : zi_M} {Q : Int → zi_M → Prop} (I : zk_I g) (p1 : (-2147483648) ≤ l1 ∧ l1 ≤ 2147483647) (p2 : (-2147483648) ≤ l2 ∧ l2 ≤ 2147483647) (hQ : ∀ v : Int, (l2 ≤ l1 → v = l2) → (l1 < l2 → v = l1) → Q v g) : w_M_lesser l1 l2 g Q := by
  unfold w_M_lesser
  refine ⟨⟨by omega, by omega⟩, ⟨by omega, by omega⟩, ?_⟩
  refine ⟨fun c3 => ?_, fun c3 => ?_⟩
  · exact hQ _ (by intros; omega) (by intros; omega)
  · exact hQ _ (by intros; omega) (by intros; omega)
-- SpoutNewsModel.isDry(I)V
def fr_M_isDry (a : Nat) (i : Int) : Prop := a = 215 ∨ a = 221 ∨ a = 235 ∨ a = 236
set_option maxRecDepth 100000 in
set_option maxHeartbeats 400000 in
theorem k_M_isDry_l2 {l1 : Int} {K51 : zi_M → Prop} {Q : Int → zi_M → Prop} {g0 : zi_M} (q1 : 0 ≤ l1 ∧ l1 ≤ 9) (hK51 : ∀ (g : zi_M), zk_I g → zk_fr fr_M_isDry g0 g → K51 g) (hQ : ∀ g' : zi_M, zk_I g' → zk_fr fr_M_isDry g0 g' → Q 0 g') : ∀ (n : Nat) {l2 : Int} {g : zi_M}, zk_I g → zk_fr fr_M_isDry g0 g → (0 ≤ l2 ∧ l2 ≤ 8) → 8 - l2 < (n : Int) → w_M_isDry_l2 l1 K51 Q n l2 g
  | 0, l2, g, I, F, b0, hm => by exfalso; omega
  | n + 1, l2, g, I, F, b0, hm => by
    unfold w_M_isDry_l2
    have m_1 : 0 ≤ (g 214 7) ∧ (g 214 7) ≤ 8 := I 214 7
    refine ⟨⟨by omega, by omega⟩, ⟨by omega, by omega⟩, ?_⟩
    refine ⟨fun c13 => ?_, fun c13 => ?_⟩
    · exact hK51 _ I F
    · refine ⟨⟨by omega, by omega⟩, ?_⟩
      have m_2 := zk_now6 I (i := (6 + l1)) (by omega)
      refine ⟨⟨by omega, by omega⟩, ?_⟩
      refine ⟨fun c12 => ?_, fun c12 => ?_⟩
      · exact k_M_isDry_l2 q1 hK51 hQ n I F ⟨by omega, by omega⟩ (by omega)
      · refine ⟨⟨by omega, by omega⟩, ?_⟩
        have m_3 := zk_now244 I (i := (244 + l2)) (by omega)
        refine ⟨⟨by omega, by omega⟩, ⟨by omega, by omega⟩, ?_⟩
        refine ⟨fun c11 => ?_, fun c11 => ?_⟩
        · exact k_M_isDry_l2 q1 hK51 hQ n I F ⟨by omega, by omega⟩ (by omega)
        · refine k_M_hears I ⟨by omega, by omega⟩ ⟨by omega, by omega⟩ (fun g9 I_4 F_5 => ?_)
          have F_6 : zk_fr fr_M_isDry g0 g9 := zk_ft F F_5 (by intro a i h; unfold fr_M_hears at h; unfold fr_M_isDry; omega)
          exact k_M_isDry_l2 q1 hK51 hQ n I_4 F_6 ⟨by omega, by omega⟩ (by omega)
set_option maxRecDepth 100000 in
set_option maxHeartbeats 400000 in
theorem k_M_isDry {l1 : Int} {g : zi_M} {Q : Int → zi_M → Prop} (I : zk_I g) (p1 : 0 ≤ l1 ∧ l1 ≤ 9) (hQ : ∀ g' : zi_M, zk_I g' → zk_fr fr_M_isDry g g' → Q 0 g') : w_M_isDry l1 g Q := by
  unfold w_M_isDry
  refine ⟨((8 - 0).toNat + 1), k_M_isDry_l2 (l1 := l1) ⟨by omega, by omega⟩ (fun g14 I_7 F_8 => ?_) hQ ((8 - 0).toNat + 1) I (zk_f0 _) ⟨by omega, by omega⟩ (by omega)⟩
  refine ⟨⟨by omega, by omega⟩, ?_⟩
  have m_9 := zk_now16 I_7 (i := (16 + l1)) (by omega)
  refine k_M_lesser I_7 ⟨by omega, by omega⟩ ⟨by omega, by omega⟩ (fun v16 b_10 b_11 => ?_)
  intro g19 e_12
  have I_13 : zk_I g19 := by rw [e_12]; exact zk_upd (zk_nl16 (i := 16 + l1) (by omega)).1 (zk_nl16 (i := 16 + l1) (by omega)).2 I_7 ⟨by omega, by omega⟩
  have F_14 : zk_fr fr_M_isDry g g19 := by rw [e_12]; exact zk_fu F_8 (by unfold fr_M_isDry; omega)
  exact hQ _ I_13 F_14
-- SpoutNewsModel.canSay(I)Z
set_option maxRecDepth 100000 in
set_option maxHeartbeats 400000 in
theorem k_M_canSay {l1 : Int} {g : zi_M} {Q : Int → zi_M → Prop} (I : zk_I g) (p1 : 0 ≤ l1 ∧ l1 ≤ 9) (hQ : ∀ v : Int, ((g 215 (6 + l1)) = 0 → v = 1) → (¬ (g 215 (6 + l1)) = 0 → ¬ (g 215 (6 + l1)) = 1 → v = 0) → (¬ (g 215 (6 + l1)) = 0 → (g 215 (6 + l1)) = 1 → (g 215 3) < 5 → v = 0) → (¬ (g 215 (6 + l1)) = 0 → (g 215 (6 + l1)) = 1 → 5 ≤ (g 215 3) → v = 1) → Q v g) : w_M_canSay l1 g Q := by
  unfold w_M_canSay
  refine ⟨⟨by omega, by omega⟩, ?_⟩
  have m_1 := zk_now6 I (i := (6 + l1)) (by omega)
  refine ⟨⟨by omega, by omega⟩, ?_⟩
  refine ⟨fun c6 => ?_, fun c6 => ?_⟩
  · have m_2 := zk_rng I 215 3
    exact hQ _ (by intros; omega) (by intros; omega) (by intros; omega) (by intros; omega)
  · refine ⟨fun c5 => ?_, fun c5 => ?_⟩
    · have m_3 := zk_rng I 215 3
      exact hQ _ (by intros; omega) (by intros; omega) (by intros; omega) (by intros; omega)
    · have m_4 := zk_rng I 215 3
      refine ⟨⟨by omega, by omega⟩, ?_⟩
      refine ⟨fun c4 => ?_, fun c4 => ?_⟩
      · exact hQ _ (by intros; omega) (by intros; omega) (by intros; omega) (by intros; omega)
      · exact hQ _ (by intros; omega) (by intros; omega) (by intros; omega) (by intros; omega)
-- SpoutNewsModel.slipOf(II)I
def fr_M_slipOf (a : Nat) (i : Int) : Prop := a = 235 ∨ a = 236
set_option maxRecDepth 100000 in
set_option maxHeartbeats 400000 in
theorem k_M_slipOf {l1 : Int} {l2 : Int} {g : zi_M} {Q : Int → zi_M → Prop} (I : zk_I g) (p1 : 0 ≤ l1 ∧ l1 ≤ 9) (p2 : 0 ≤ l2 ∧ l2 ≤ 15) (hQ : ∀ (v : Int) (g' : zi_M), zk_I g' → zk_fr fr_M_slipOf g g' → (0 ≤ v ∧ v ≤ 1000) → Q v g') : w_M_slipOf l1 l2 g Q := by
  unfold w_M_slipOf
  refine k_M_asks I ⟨by omega, by omega⟩ ⟨by omega, by omega⟩ (fun g2 I_1 F_2 => ?_)
  have F_3 : zk_fr fr_M_slipOf g g2 := zk_ft (zk_f0 _) F_2 (by intro a i h; unfold fr_M_asks at h; unfold fr_M_slipOf; omega)
  have m_4 := zk_rng I_1 215 3
  have m_5 : g2 215 3 = g 215 3 := F_2 _ _ (by unfold fr_M_asks; omega)
  have m_6 := zk_rng I 215 3
  have m_7 := zi_r_w (20 * (g2 215 3))
  refine k_M_lawTells I_1 ⟨by omega, by omega⟩ ⟨by omega, by omega⟩ ⟨by omega, by omega⟩ (fun v4 g5 I_9 F_10 b_8 => ?_)
  have F_11 : zk_fr fr_M_slipOf g g5 := zk_ft F_3 F_10 (by intro a i h; unfold fr_M_lawTells at h; unfold fr_M_slipOf; omega)
  exact hQ _ _ I_9 F_11 ⟨by omega, by omega⟩
-- SpoutNewsModel.draw(I)I
def fr_M_draw (a : Nat) (i : Int) : Prop := a = 215
set_option maxRecDepth 100000 in
set_option maxHeartbeats 400000 in
theorem k_M_draw {l1 : Int} {g : zi_M} {Q : Int → zi_M → Prop} (I : zk_I g) (p1 : 1000 ≤ l1 ∧ l1 ≤ 1000) (hQ : ∀ (v : Int) (g' : zi_M), zk_I g' → zk_fr fr_M_draw g g' → (0 ≤ v ∧ v ≤ 999) → Q v g') : w_M_draw l1 g Q := by
  unfold w_M_draw
  have m_4 := zk_rng I 215 1
  have m_5 := zi_r_w ((1664525 * (g 215 1)) + 1013904223)
  intro g1 e_1
  have I_2 : zk_I g1 := by rw [e_1]; exact zk_upd (zk_nl0 (i := 1) (by omega)).1 (zk_nl0 (i := 1) (by omega)).2 I ⟨by omega, by omega⟩
  have F_3 : zk_fr fr_M_draw g g1 := by rw [e_1]; exact zk_fu (zk_f0 _) (by unfold fr_M_draw; omega)
  refine ⟨⟨by omega, by omega⟩, (by omega), ?_⟩
  have m_6 := zk_rng I_2 215 1
  have m_7 : g1 215 1 = zi_w ((1664525 * (g 215 1)) + 1013904223) := by rw [e_1]; exact zi_u_eq
  have m_8 := zi_ush_f (g1 215 1) 8
  have m_9 := zi_tmod_f (zi_ush (g1 215 1) 8) l1
  exact hQ _ _ I_2 F_3 ⟨by omega, by omega⟩
-- SpoutNewsModel.saysAs(II)I
def fr_M_saysAs (a : Nat) (i : Int) : Prop := a = 215 ∨ a = 235 ∨ a = 236
set_option maxRecDepth 100000 in
set_option maxHeartbeats 400000 in
theorem k_M_saysAs_b47 {l2 : Int} {s0 : Int} {Q : Int → zi_M → Prop} {g : zi_M} {g0 : zi_M} (I : zk_I g) (F : zk_fr fr_M_saysAs g0 g) (p2 : 0 ≤ l2 ∧ l2 ≤ 15) (ps0 : 0 ≤ s0 ∧ s0 ≤ 1) (hQ : ∀ (v : Int) (g' : zi_M), zk_I g' → zk_fr fr_M_saysAs g0 g' → (0 ≤ v ∧ v ≤ 15) → Q v g') : w_M_saysAs_b47 l2 s0 g Q := by
  unfold w_M_saysAs_b47
  refine ⟨⟨by omega, by omega⟩, ?_⟩
  refine ⟨fun c13 => ?_, fun c13 => ?_⟩
  · have m_15 := zk_rng I 215 5
    have m_16 := zi_r_w ((g 215 5) + 1)
    intro g11 e_12
    have I_13 : zk_I g11 := by rw [e_12]; exact zk_upd (zk_nl3 (i := 5) (by omega)).1 (zk_nl3 (i := 5) (by omega)).2 I ⟨by omega, by omega⟩
    have F_14 : zk_fr fr_M_saysAs g0 g11 := by rw [e_12]; exact zk_fu F (by unfold fr_M_saysAs; omega)
    refine ⟨⟨by omega, by omega⟩, ?_⟩
    have m_17 := zi_tmod_f (l2 + 1) 16
    have m_18 := zi_tmod_c (l2 + 1) 16 (by decide)
    exact hQ _ _ I_13 F_14 ⟨by omega, by omega⟩
  · exact hQ _ _ I F ⟨by omega, by omega⟩
set_option maxRecDepth 100000 in
set_option maxHeartbeats 400000 in
theorem k_M_saysAs {l1 : Int} {l2 : Int} {g : zi_M} {Q : Int → zi_M → Prop} (I : zk_I g) (p1 : 0 ≤ l1 ∧ l1 ≤ 9) (p2 : 0 ≤ l2 ∧ l2 ≤ 15) (hQ : ∀ (v : Int) (g' : zi_M), zk_I g' → zk_fr fr_M_saysAs g g' → (0 ≤ v ∧ v ≤ 15) → Q v g') : w_M_saysAs l1 l2 g Q := by
  unfold w_M_saysAs
  refine k_M_slipOf I ⟨by omega, by omega⟩ ⟨by omega, by omega⟩ (fun v1 g2 I_2 F_3 b_1 => ?_)
  have F_4 : zk_fr fr_M_saysAs g g2 := zk_ft (zk_f0 _) F_3 (by intro a i h; unfold fr_M_slipOf at h; unfold fr_M_saysAs; omega)
  have m_5 : 0 ≤ (g2 214 5) ∧ (g2 214 5) ≤ 1 := I_2 214 5
  have m_6 : g2 214 5 = g 214 5 := F_3 _ _ (by unfold fr_M_slipOf; omega)
  have m_7 : 0 ≤ (g 214 5) ∧ (g 214 5) ≤ 1 := I 214 5
  refine ⟨⟨by omega, by omega⟩, ?_⟩
  refine ⟨fun c17 => ?_, fun c17 => ?_⟩
  · refine k_M_draw I_2 ⟨by omega, by omega⟩ (fun v5 g6 I_9 F_10 b_8 => ?_)
    have F_11 : zk_fr fr_M_saysAs g g6 := zk_ft F_4 F_10 (by intro a i h; unfold fr_M_draw at h; unfold fr_M_saysAs; omega)
    refine ⟨⟨by omega, by omega⟩, ⟨by omega, by omega⟩, ?_⟩
    refine ⟨fun c14 => ?_, fun c14 => ?_⟩
    · exact k_M_saysAs_b47 I_9 F_11 ⟨by omega, by omega⟩ ⟨by omega, by omega⟩ hQ
    · exact k_M_saysAs_b47 I_9 F_11 ⟨by omega, by omega⟩ ⟨by omega, by omega⟩ hQ
  · refine ⟨⟨by omega, by omega⟩, ?_⟩
    refine ⟨fun c16 => ?_, fun c16 => ?_⟩
    · exact k_M_saysAs_b47 I_2 F_4 ⟨by omega, by omega⟩ ⟨by omega, by omega⟩ hQ
    · exact k_M_saysAs_b47 I_2 F_4 ⟨by omega, by omega⟩ ⟨by omega, by omega⟩ hQ
-- SpoutNewsModel.into(I)I
set_option maxRecDepth 100000 in
set_option maxHeartbeats 400000 in
theorem k_M_into {l1 : Int} {g : zi_M} {Q : Int → zi_M → Prop} (I : zk_I g) (p1 : 0 ≤ l1 ∧ l1 ≤ 9) (hQ : ∀ v : Int, (v = (g 232 l1) - 1) → Q v g) : w_M_into l1 g Q := by
  unfold w_M_into
  refine ⟨⟨by omega, by omega⟩, ?_⟩
  have m_1 : 0 ≤ (g 232 l1) ∧ (g 232 l1) ≤ 10 := I 232 l1
  exact hQ _ (by intros; omega)
-- SpoutNewsModel.saysFirst(I)V
def fr_M_saysFirst (a : Nat) (i : Int) : Prop := a = 215 ∨ a = 221 ∨ a = 235 ∨ a = 236 ∨ a = 237 ∨ a = 238 ∨ (a = 214 ∧ i = 43)
set_option maxRecDepth 100000 in
set_option maxHeartbeats 400000 in
theorem k_M_saysFirst {l1 : Int} {g : zi_M} {Q : Int → zi_M → Prop} (I : zk_I g) (p1 : 0 ≤ l1 ∧ l1 ≤ 9) (hQ : ∀ g' : zi_M, zk_I g' → zk_fr fr_M_saysFirst g g' → Q 0 g') : w_M_saysFirst l1 g Q := by
  sorry
-- SpoutNewsModel.jetOf(I)I
def fr_M_jetOf (a : Nat) (i : Int) : Prop := a = 235 ∨ a = 236
set_option maxRecDepth 100000 in
set_option maxHeartbeats 400000 in
theorem k_M_jetOf {l1 : Int} {g : zi_M} {Q : Int → zi_M → Prop} (I : zk_I g) (p1 : 0 ≤ l1 ∧ l1 ≤ 9) (hQ : ∀ (v : Int) (g' : zi_M), zk_I g' → zk_fr fr_M_jetOf g g' → (0 ≤ v ∧ v ≤ 1000) → Q v g') : w_M_jetOf l1 g Q := by
  unfold w_M_jetOf
  refine k_M_asks I ⟨by omega, by omega⟩ ⟨by omega, by omega⟩ (fun g2 I_1 F_2 => ?_)
  have F_3 : zk_fr fr_M_jetOf g g2 := zk_ft (zk_f0 _) F_2 (by intro a i h; unfold fr_M_asks at h; unfold fr_M_jetOf; omega)
  have m_4 := zk_rng I_1 215 3
  have m_5 : g2 215 3 = g 215 3 := F_2 _ _ (by unfold fr_M_asks; omega)
  have m_6 := zk_rng I 215 3
  refine k_M_lawTells I_1 ⟨by omega, by omega⟩ ⟨by omega, by omega⟩ ⟨by omega, by omega⟩ (fun v4 g5 I_8 F_9 b_7 => ?_)
  have F_10 : zk_fr fr_M_jetOf g g5 := zk_ft F_3 F_9 (by intro a i h; unfold fr_M_lawTells at h; unfold fr_M_jetOf; omega)
  exact hQ _ _ I_8 F_10 ⟨by omega, by omega⟩
-- SpoutNewsModel.rains()I
def fr_M_rains (a : Nat) (i : Int) : Prop := a = 215 ∨ a = 221 ∨ a = 235 ∨ a = 236 ∨ a = 237 ∨ a = 238 ∨ (a = 214 ∧ i = 43)
set_option maxRecDepth 100000 in
set_option maxHeartbeats 400000 in
theorem k_M_rains_l56 {l2 : Int} {l3 : Int} {K73 : zi_M → Prop} {Q : Int → zi_M → Prop} {g0 : zi_M} (q2 : 0 ≤ l2 ∧ l2 ≤ 9) (q3 : (-2147483648) ≤ l3 ∧ l3 ≤ 2147483647) (hK73 : ∀ (g : zi_M), zk_I g → zk_fr fr_M_rains g0 g → K73 g) (hQ : ∀ (v : Int) (g' : zi_M), zk_I g' → zk_fr fr_M_rains g0 g' → ((-2147483648) ≤ v ∧ v ≤ 2147483647) → Q v g') : ∀ (n : Nat) {l4 : Int} {g : zi_M}, zk_I g → zk_fr fr_M_rains g0 g → (0 ≤ l4) → l3 - l4 < (n : Int) → w_M_rains_l56 l2 l3 K73 Q n l4 g
  | 0, l4, g, I, F, b0, hm => by exfalso; omega
  | n + 1, l4, g, I, F, b0, hm => by
    unfold w_M_rains_l56
    refine ⟨⟨by omega, by omega⟩, ⟨by omega, by omega⟩, ?_⟩
    refine ⟨fun c12 => ?_, fun c12 => ?_⟩
    · exact hK73 _ I F
    · refine k_M_saysFirst I ⟨by omega, by omega⟩ (fun g10 I_11 F_12 => ?_)
      have F_13 : zk_fr fr_M_rains g0 g10 := zk_ft F F_12 (by intro a i h; unfold fr_M_saysFirst at h; unfold fr_M_rains; omega)
      exact k_M_rains_l56 q2 q3 hK73 hQ n I_11 F_13 (by omega) (by omega)
set_option maxRecDepth 100000 in
set_option maxHeartbeats 400000 in
theorem k_M_rains_l14 {K79 : zi_M → Prop} {Q : Int → zi_M → Prop} {g0 : zi_M} (hK79 : ∀ (g : zi_M), zk_I g → zk_fr fr_M_rains g0 g → K79 g) (hQ : ∀ (v : Int) (g' : zi_M), zk_I g' → zk_fr fr_M_rains g0 g' → ((-2147483648) ≤ v ∧ v ≤ 2147483647) → Q v g') : ∀ (n : Nat) {l2 : Int} {g : zi_M}, zk_I g → zk_fr fr_M_rains g0 g → (0 ≤ l2 ∧ l2 ≤ 10) → 10 - l2 < (n : Int) → w_M_rains_l14 K79 Q n l2 g
  | 0, l2, g, I, F, b0, hm => by exfalso; omega
  | n + 1, l2, g, I, F, b0, hm => by
    unfold w_M_rains_l14
    have m_4 : 0 ≤ (g 214 6) ∧ (g 214 6) ≤ 10 := I 214 6
    refine ⟨⟨by omega, by omega⟩, ⟨by omega, by omega⟩, ?_⟩
    refine ⟨fun c25 => ?_, fun c25 => ?_⟩
    · exact hK79 _ I F
    · have m_9 := zk_now6 I (i := (6 + l2)) (by omega)
      have m_10 := zk_rng I 215 3
      refine k_M_canSay I ⟨by omega, by omega⟩ (fun v4 b_5 b_6 b_7 b_8 => ?_)
      refine ⟨fun c24 => ?_, fun c24 => ?_⟩
      · refine ⟨((0 - 0).toNat + 1), k_M_rains_l56 (l2 := l2) (l3 := 0) ⟨by omega, by omega⟩ ⟨by omega, by omega⟩ (fun g13 I_14 F_15 => ?_) hQ ((0 - 0).toNat + 1) I F (by omega) (by omega)⟩
        exact k_M_rains_l14 hK79 hQ n I_14 F_15 ⟨by omega, by omega⟩ (by omega)
      · refine ⟨⟨by omega, by omega⟩, ?_⟩
        refine k_M_jetOf I ⟨by omega, by omega⟩ (fun v16 g17 I_17 F_18 b_16 => ?_)
        have F_19 : zk_fr fr_M_rains g0 g17 := zk_ft F F_18 (by intro a i h; unfold fr_M_jetOf at h; unfold fr_M_rains; omega)
        have m_20 := zk_now26 I (i := (26 + l2)) (by omega)
        refine k_M_lesser I_17 ⟨by omega, by omega⟩ ⟨by omega, by omega⟩ (fun v19 b_21 b_22 => ?_)
        refine ⟨((v19 - 0).toNat + 1), k_M_rains_l56 (l2 := l2) (l3 := v19) ⟨by omega, by omega⟩ ⟨by omega, by omega⟩ (fun g22 I_23 F_24 => ?_) hQ ((v19 - 0).toNat + 1) I_17 F_19 (by omega) (by omega)⟩
        exact k_M_rains_l14 hK79 hQ n I_23 F_24 ⟨by omega, by omega⟩ (by omega)
set_option maxRecDepth 100000 in
set_option maxHeartbeats 400000 in
theorem k_M_rains_l81 {K149 : zi_M → Prop} {Q : Int → zi_M → Prop} {g0 : zi_M} (hK149 : ∀ (g : zi_M), zk_I g → zk_fr fr_M_rains g0 g → K149 g) (hQ : ∀ (v : Int) (g' : zi_M), zk_I g' → zk_fr fr_M_rains g0 g' → ((-2147483648) ≤ v ∧ v ≤ 2147483647) → Q v g') : ∀ (n : Nat) {l2 : Int} {g : zi_M}, zk_I g → zk_fr fr_M_rains g0 g → (0 ≤ l2 ∧ l2 ≤ 90) → 90 - l2 < (n : Int) → w_M_rains_l81 K149 Q n l2 g
  | 0, l2, g, I, F, b0, hm => by exfalso; omega
  | n + 1, l2, g, I, F, b0, hm => by
    unfold w_M_rains_l81
    have m_27 : 0 ≤ (g 214 43) ∧ (g 214 43) ≤ 90 := I 214 43
    refine ⟨⟨by omega, by omega⟩, ⟨by omega, by omega⟩, ?_⟩
    refine ⟨fun c40 => ?_, fun c40 => ?_⟩
    · exact hK149 _ I F
    · refine ⟨⟨by omega, by omega⟩, ?_⟩
      have m_28 : 0 ≤ (g 237 l2) ∧ (g 237 l2) ≤ 9 := I 237 l2
      refine ⟨⟨by omega, by omega⟩, ?_⟩
      have m_29 := zk_now6 I (i := (6 + (g 237 l2))) (by omega)
      refine ⟨⟨by omega, by omega⟩, ?_⟩
      refine ⟨fun c39 => ?_, fun c39 => ?_⟩
      · exact k_M_rains_l81 hK149 hQ n I F ⟨by omega, by omega⟩ (by omega)
      · have m_30 : 0 ≤ (g 238 l2) ∧ (g 238 l2) ≤ 15 := I 238 l2
        refine k_M_comesTo I ⟨by omega, by omega⟩ ⟨by omega, by omega⟩ (fun v32 g33 I_32 F_33 b_31 => ?_)
        have F_34 : zk_fr fr_M_rains g0 g33 := zk_ft F F_33 (by intro a i h; unfold fr_M_comesTo at h; unfold fr_M_rains; omega)
        refine ⟨fun c38 => ?_, fun c38 => ?_⟩
        · exact k_M_rains_l81 hK149 hQ n I_32 F_34 ⟨by omega, by omega⟩ (by omega)
        · have m_35 : 0 ≤ (g33 237 l2) ∧ (g33 237 l2) ≤ 9 := I_32 237 l2
          have m_36 : g33 237 l2 = g 237 l2 := F_33 _ _ (by unfold fr_M_comesTo; omega)
          have m_37 : 0 ≤ (g33 238 l2) ∧ (g33 238 l2) ≤ 15 := I_32 238 l2
          have m_38 : g33 238 l2 = g 238 l2 := F_33 _ _ (by unfold fr_M_comesTo; omega)
          refine k_M_notes I_32 ⟨by omega, by omega⟩ ⟨by omega, by omega⟩ ⟨by omega, by omega⟩ (fun g36 I_39 F_40 => ?_)
          have F_41 : zk_fr fr_M_rains g0 g36 := zk_ft F_34 F_40 (by intro a i h; unfold fr_M_notes at h; unfold fr_M_rains; omega)
          exact k_M_rains_l81 hK149 hQ n I_39 F_41 ⟨by omega, by omega⟩ (by omega)
set_option maxRecDepth 100000 in
set_option maxHeartbeats 400000 in
theorem k_M_rains_l151 {K175 : zi_M → Prop} {Q : Int → zi_M → Prop} {g0 : zi_M} (hK175 : ∀ (g : zi_M), zk_I g → zk_fr fr_M_rains g0 g → K175 g) (hQ : ∀ (v : Int) (g' : zi_M), zk_I g' → zk_fr fr_M_rains g0 g' → ((-2147483648) ≤ v ∧ v ≤ 2147483647) → Q v g') : ∀ (n : Nat) {l2 : Int} {g : zi_M}, zk_I g → zk_fr fr_M_rains g0 g → (0 ≤ l2 ∧ l2 ≤ 10) → 10 - l2 < (n : Int) → w_M_rains_l151 K175 Q n l2 g
  | 0, l2, g, I, F, b0, hm => by exfalso; omega
  | n + 1, l2, g, I, F, b0, hm => by
    unfold w_M_rains_l151
    have m_44 : 0 ≤ (g 214 6) ∧ (g 214 6) ≤ 10 := I 214 6
    refine ⟨⟨by omega, by omega⟩, ⟨by omega, by omega⟩, ?_⟩
    refine ⟨fun c46 => ?_, fun c46 => ?_⟩
    · exact hK175 _ I F
    · refine ⟨⟨by omega, by omega⟩, ?_⟩
      intro g45 e_45
      have I_46 : zk_I g45 := by rw [e_45]; exact zk_upd (zk_nl16 (i := 16 + l2) (by omega)).1 (zk_nl16 (i := 16 + l2) (by omega)).2 I ⟨by omega, by omega⟩
      have F_47 : zk_fr fr_M_rains g0 g45 := by rw [e_45]; exact zk_fu F (by unfold fr_M_rains; omega)
      exact k_M_rains_l151 hK175 hQ n I_46 F_47 ⟨by omega, by omega⟩ (by omega)
set_option maxRecDepth 100000 in
set_option maxHeartbeats 400000 in
theorem k_M_rains {g : zi_M} {Q : Int → zi_M → Prop} (I : zk_I g) (hQ : ∀ (v : Int) (g' : zi_M), zk_I g' → zk_fr fr_M_rains g g' → ((-2147483648) ≤ v ∧ v ≤ 2147483647) → Q v g') : w_M_rains g Q := by
  unfold w_M_rains
  intro g1 e_1
  have I_2 : zk_I g1 := by rw [e_1]; exact zk_upd (L := 0) (H := 90) rfl rfl I ⟨by omega, by omega⟩
  have F_3 : zk_fr fr_M_rains g g1 := by rw [e_1]; exact zk_fu (zk_f0 _) (by unfold fr_M_rains; omega)
  refine ⟨((10 - 0).toNat + 1), k_M_rains_l14 (fun g26 I_25 F_26 => ?_) hQ ((10 - 0).toNat + 1) I_2 F_3 ⟨by omega, by omega⟩ (by omega)⟩
  refine ⟨((90 - 0).toNat + 1), k_M_rains_l81 (fun g41 I_42 F_43 => ?_) hQ ((90 - 0).toNat + 1) I_25 F_26 ⟨by omega, by omega⟩ (by omega)⟩
  refine ⟨((10 - 0).toNat + 1), k_M_rains_l151 (fun g47 I_48 F_49 => ?_) hQ ((10 - 0).toNat + 1) I_42 F_43 ⟨by omega, by omega⟩ (by omega)⟩
  have m_50 := zk_rng I_48 215 4
  have m_51 := zk_rng I 215 4
  have m_52 := zi_r_w ((g47 215 4) - (g 215 4))
  exact hQ _ _ I_48 F_49 ⟨by omega, by omega⟩
