-- by program (wip/gen/mkz.py)
-- SpoutNewsModel.isSpout(I)Z
set_option maxRecDepth 100000 in
set_option maxHeartbeats 400000 in
theorem k_M_isSpout {l1 : Int} {g : zi_M} {Q : Int → zi_M → Prop} (I : zk_I g) (p1 : (-2147483648) ≤ l1 ∧ l1 ≤ 2147483647) (hQ : ∀ v : Int, (l1 < 0 → v = 0) → (0 ≤ l1 → (g 214 6) ≤ l1 → v = 0) → (0 ≤ l1 → l1 < (g 214 6) → v = 1) → Q v g) : w_M_isSpout l1 g Q := by
  unfold w_M_isSpout
  refine ⟨⟨by omega, by omega⟩, ?_⟩
  refine ⟨fun c4 => ?_, fun c4 => ?_⟩
  · have m_1 : 0 ≤ (g 214 6) ∧ (g 214 6) ≤ 10 := I 214 6
    exact hQ _ (by intros; omega) (by intros; omega) (by intros; omega)
  · have m_2 : 0 ≤ (g 214 6) ∧ (g 214 6) ≤ 10 := I 214 6
    refine ⟨⟨by omega, by omega⟩, ?_⟩
    refine ⟨fun c3 => ?_, fun c3 => ?_⟩
    · exact hQ _ (by intros; omega) (by intros; omega) (by intros; omega)
    · exact hQ _ (by intros; omega) (by intros; omega) (by intros; omega)
-- SpoutNewsModel.isSitter(I)Z
set_option maxRecDepth 100000 in
set_option maxHeartbeats 400000 in
theorem k_M_isSitter {l1 : Int} {g : zi_M} {Q : Int → zi_M → Prop} (I : zk_I g) (p1 : (-2147483648) ≤ l1 ∧ l1 ≤ 2147483647) (hQ : ∀ v : Int, (l1 < 0 → v = 0) → (0 ≤ l1 → (g 214 7) ≤ l1 → v = 0) → (0 ≤ l1 → l1 < (g 214 7) → v = 1) → Q v g) : w_M_isSitter l1 g Q := by
  unfold w_M_isSitter
  refine ⟨⟨by omega, by omega⟩, ?_⟩
  refine ⟨fun c4 => ?_, fun c4 => ?_⟩
  · have m_1 : 0 ≤ (g 214 7) ∧ (g 214 7) ≤ 8 := I 214 7
    exact hQ _ (by intros; omega) (by intros; omega) (by intros; omega)
  · have m_2 : 0 ≤ (g 214 7) ∧ (g 214 7) ≤ 8 := I 214 7
    refine ⟨⟨by omega, by omega⟩, ?_⟩
    refine ⟨fun c3 => ?_, fun c3 => ?_⟩
    · exact hQ _ (by intros; omega) (by intros; omega) (by intros; omega)
    · exact hQ _ (by intros; omega) (by intros; omega) (by intros; omega)
-- SpoutNewsModel.canSet(III)Z
set_option maxRecDepth 100000 in
set_option maxHeartbeats 400000 in
theorem k_M_canSet {l1 : Int} {l2 : Int} {l3 : Int} {g : zi_M} {Q : Int → zi_M → Prop} (I : zk_I g) (p1 : (-2147483648) ≤ l1 ∧ l1 ≤ 2147483647) (p2 : (-2147483648) ≤ l2 ∧ l2 ≤ 2147483647) (p3 : (-2147483648) ≤ l3 ∧ l3 ≤ 2147483647) (hQ : ∀ v : Int, (0 ≤ v ∧ v ≤ 1) → (¬ v = 0 ∧ (l1 = 0) → 0 ≤ l3 ∧ l3 ≤ 9) → (¬ v = 0 ∧ (l1 = 1) → 0 ≤ l2 ∧ l2 ≤ 9 ∧ 0 ≤ l3 ∧ l3 ≤ 99) → (¬ v = 0 ∧ (l1 = 2) → 0 ≤ l2 ∧ l2 ≤ 9 ∧ 0 ≤ l3 ∧ l3 ≤ 999) → (¬ v = 0 ∧ (l1 < 0 ∨ 2 < l1) → 0 ≤ l2 ∧ l2 ≤ 7 ∧ 0 ≤ l3 ∧ l3 ≤ 65535) → Q v g) : w_M_canSet l1 l2 l3 g Q := by
  unfold w_M_canSet
  refine ⟨⟨by omega, by omega⟩, ?_⟩
  refine ⟨fun c31 => ?_, fun c31 => ?_⟩
  · refine ⟨fun c27 => ?_, fun c27 => ?_⟩
    · refine k_M_isIn I ⟨by omega, by omega⟩ ⟨by omega, by omega⟩ ⟨by omega, by omega⟩ (fun v2 b_1 b_2 b_3 => ?_)
      refine ⟨fun c18 => ?_, fun c18 => ?_⟩
      · exact hQ _ ⟨by omega, by omega⟩ (by omega) (by omega) (by omega) (by omega)
      · have m_7 : 0 ≤ (g 214 6) ∧ (g 214 6) ≤ 10 := I 214 6
        refine k_M_isSpout I ⟨by omega, by omega⟩ (fun v5 b_4 b_5 b_6 => ?_)
        refine ⟨fun c17 => ?_, fun c17 => ?_⟩
        · exact hQ _ ⟨by omega, by omega⟩ (by omega) (by omega) (by omega) (by omega)
        · refine ⟨fun c16 => ?_, fun c16 => ?_⟩
          · refine k_M_isIn I ⟨by omega, by omega⟩ ⟨by omega, by omega⟩ ⟨by omega, by omega⟩ (fun v8 b_8 b_9 b_10 => ?_)
            refine ⟨fun c11 => ?_, fun c11 => ?_⟩
            · exact hQ _ ⟨by omega, by omega⟩ (by omega) (by omega) (by omega) (by omega)
            · exact hQ _ ⟨by omega, by omega⟩ (by omega) (by omega) (by omega) (by omega)
          · refine k_M_isIn I ⟨by omega, by omega⟩ ⟨by omega, by omega⟩ ⟨by omega, by omega⟩ (fun v12 b_11 b_12 b_13 => ?_)
            refine ⟨fun c15 => ?_, fun c15 => ?_⟩
            · exact hQ _ ⟨by omega, by omega⟩ (by omega) (by omega) (by omega) (by omega)
            · exact hQ _ ⟨by omega, by omega⟩ (by omega) (by omega) (by omega) (by omega)
    · have m_17 : 0 ≤ (g 214 7) ∧ (g 214 7) ≤ 8 := I 214 7
      refine k_M_isSitter I ⟨by omega, by omega⟩ (fun v19 b_14 b_15 b_16 => ?_)
      refine ⟨fun c26 => ?_, fun c26 => ?_⟩
      · exact hQ _ ⟨by omega, by omega⟩ (by omega) (by omega) (by omega) (by omega)
      · refine k_M_isIn I ⟨by omega, by omega⟩ ⟨by omega, by omega⟩ ⟨by omega, by omega⟩ (fun v22 b_18 b_19 b_20 => ?_)
        refine ⟨fun c25 => ?_, fun c25 => ?_⟩
        · exact hQ _ ⟨by omega, by omega⟩ (by omega) (by omega) (by omega) (by omega)
        · exact hQ _ ⟨by omega, by omega⟩ (by omega) (by omega) (by omega) (by omega)
  · refine k_M_isIn I ⟨by omega, by omega⟩ ⟨by omega, by omega⟩ ⟨by omega, by omega⟩ (fun v28 b_21 b_22 b_23 => ?_)
    exact hQ _ ⟨by omega, by omega⟩ (by omega) (by omega) (by omega) (by omega)
-- SpoutNewsModel.set(III)Z
def fr_M_set (a : Nat) (i : Int) : Prop := a = 215 ∨ a = 220 ∨ (a = 214 ∧ i = 0) ∨ (a = 214 ∧ i = 3)
set_option maxRecDepth 100000 in
set_option maxHeartbeats 400000 in
theorem k_M_set_b55 {l1 : Int} {l2 : Int} {l3 : Int} {Q : Int → zi_M → Prop} {g : zi_M} {g0 : zi_M} (I : zk_I g) (F : zk_fr fr_M_set g0 g) (p1 : (-2147483648) ≤ l1 ∧ l1 ≤ 2147483647) (p2 : (-2147483648) ≤ l2 ∧ l2 ≤ 2147483647) (p3 : (-2147483648) ≤ l3 ∧ l3 ≤ 2147483647) (ix0 : (l1 = 0) → 0 ≤ l3 ∧ l3 ≤ 9) (ix1 : (l1 = 1) → 0 ≤ l2 ∧ l2 ≤ 9 ∧ 0 ≤ l3 ∧ l3 ≤ 99) (ix2 : (l1 = 2) → 0 ≤ l2 ∧ l2 ≤ 9 ∧ 0 ≤ l3 ∧ l3 ≤ 999) (ix3 : (l1 < 0 ∨ 2 < l1) → 0 ≤ l2 ∧ l2 ≤ 7 ∧ 0 ≤ l3 ∧ l3 ≤ 65535) (hQ : ∀ (v : Int) (g' : zi_M), zk_I g' → zk_fr fr_M_set g0 g' → (0 ≤ v ∧ v ≤ 1) → Q v g') : w_M_set_b55 l1 l2 l3 g Q := by
  unfold w_M_set_b55
  refine ⟨⟨by omega, by omega⟩, ?_⟩
  refine ⟨fun c13 => ?_, fun c13 => ?_⟩
  · intro g9 e_9
    have I_10 : zk_I g9 := by rw [e_9]; exact zk_upd (L := 0) (H := 6) rfl rfl I ⟨by omega, by omega⟩
    have F_11 : zk_fr fr_M_set g0 g9 := by rw [e_9]; exact zk_fu F (Or.inr (Or.inr (Or.inr ⟨rfl, rfl⟩)))
    exact hQ _ _ I_10 F_11 ⟨by omega, by omega⟩
  · refine ⟨⟨by omega, by omega⟩, ?_⟩
    intro g11 e_12
    have I_13 : zk_I g11 := by rw [e_12]; exact zk_upd (zk_nl236 (i := 236 + l2) (by omega)).1 (zk_nl236 (i := 236 + l2) (by omega)).2 I ⟨by omega, by omega⟩
    have F_14 : zk_fr fr_M_set g0 g11 := by rw [e_12]; exact zk_fu F (Or.inl rfl)
    intro g12 e_15
    have I_16 : zk_I g12 := by rw [e_15]; exact zk_upd (L := 0) (H := 6) rfl rfl I_13 ⟨by omega, by omega⟩
    have F_17 : zk_fr fr_M_set g0 g12 := by rw [e_15]; exact zk_fu F_14 (Or.inr (Or.inr (Or.inr ⟨rfl, rfl⟩)))
    exact hQ _ _ I_16 F_17 ⟨by omega, by omega⟩
set_option maxRecDepth 100000 in
set_option maxHeartbeats 400000 in
theorem k_M_set_b40 {l1 : Int} {l2 : Int} {l3 : Int} {Q : Int → zi_M → Prop} {g : zi_M} {g0 : zi_M} (I : zk_I g) (F : zk_fr fr_M_set g0 g) (p1 : (-2147483648) ≤ l1 ∧ l1 ≤ 2147483647) (p2 : (-2147483648) ≤ l2 ∧ l2 ≤ 2147483647) (p3 : (-2147483648) ≤ l3 ∧ l3 ≤ 2147483647) (ix0 : (l1 = 0) → 0 ≤ l3 ∧ l3 ≤ 9) (ix1 : (l1 = 1) → 0 ≤ l2 ∧ l2 ≤ 9 ∧ 0 ≤ l3 ∧ l3 ≤ 99) (ix2 : (l1 = 2) → 0 ≤ l2 ∧ l2 ≤ 9 ∧ 0 ≤ l3 ∧ l3 ≤ 999) (ix3 : (l1 < 0 ∨ 2 < l1) → 0 ≤ l2 ∧ l2 ≤ 7 ∧ 0 ≤ l3 ∧ l3 ≤ 65535) (hQ : ∀ (v : Int) (g' : zi_M), zk_I g' → zk_fr fr_M_set g0 g' → (0 ≤ v ∧ v ≤ 1) → Q v g') : w_M_set_b40 l1 l2 l3 g Q := by
  unfold w_M_set_b40
  refine ⟨⟨by omega, by omega⟩, ?_⟩
  refine ⟨fun c16 => ?_, fun c16 => ?_⟩
  · exact k_M_set_b55 I F ⟨by omega, by omega⟩ ⟨by omega, by omega⟩ ⟨by omega, by omega⟩ (by omega) (by omega) (by omega) (by omega) hQ
  · refine ⟨⟨by omega, by omega⟩, ?_⟩
    intro g15 e_18
    have I_19 : zk_I g15 := by rw [e_18]; exact zk_upd (zk_nl16 (i := 16 + l2) (by omega)).1 (zk_nl16 (i := 16 + l2) (by omega)).2 I ⟨by omega, by omega⟩
    have F_20 : zk_fr fr_M_set g0 g15 := by rw [e_18]; exact zk_fu F (Or.inl rfl)
    exact k_M_set_b55 I_19 F_20 ⟨by omega, by omega⟩ ⟨by omega, by omega⟩ ⟨by omega, by omega⟩ (by omega) (by omega) (by omega) (by omega) hQ
set_option maxRecDepth 100000 in
set_option maxHeartbeats 400000 in
theorem k_M_set_b28 {l1 : Int} {l2 : Int} {l3 : Int} {Q : Int → zi_M → Prop} {g : zi_M} {g0 : zi_M} (I : zk_I g) (F : zk_fr fr_M_set g0 g) (p1 : (-2147483648) ≤ l1 ∧ l1 ≤ 2147483647) (p2 : (-2147483648) ≤ l2 ∧ l2 ≤ 2147483647) (p3 : (-2147483648) ≤ l3 ∧ l3 ≤ 2147483647) (ix0 : (l1 = 0) → 0 ≤ l3 ∧ l3 ≤ 9) (ix1 : (l1 = 1) → 0 ≤ l2 ∧ l2 ≤ 9 ∧ 0 ≤ l3 ∧ l3 ≤ 99) (ix2 : (l1 = 2) → 0 ≤ l2 ∧ l2 ≤ 9 ∧ 0 ≤ l3 ∧ l3 ≤ 999) (ix3 : (l1 < 0 ∨ 2 < l1) → 0 ≤ l2 ∧ l2 ≤ 7 ∧ 0 ≤ l3 ∧ l3 ≤ 65535) (hQ : ∀ (v : Int) (g' : zi_M), zk_I g' → zk_fr fr_M_set g0 g' → (0 ≤ v ∧ v ≤ 1) → Q v g') : w_M_set_b28 l1 l2 l3 g Q := by
  unfold w_M_set_b28
  refine ⟨⟨by omega, by omega⟩, ?_⟩
  refine ⟨fun c19 => ?_, fun c19 => ?_⟩
  · exact k_M_set_b40 I F ⟨by omega, by omega⟩ ⟨by omega, by omega⟩ ⟨by omega, by omega⟩ (by omega) (by omega) (by omega) (by omega) hQ
  · refine ⟨⟨by omega, by omega⟩, ?_⟩
    intro g18 e_21
    have I_22 : zk_I g18 := by rw [e_21]; exact zk_upd (L := 0) (H := 99) rfl rfl I ⟨by omega, by omega⟩
    have F_23 : zk_fr fr_M_set g0 g18 := by rw [e_21]; exact zk_fu F (Or.inr (Or.inl rfl))
    exact k_M_set_b40 I_22 F_23 ⟨by omega, by omega⟩ ⟨by omega, by omega⟩ ⟨by omega, by omega⟩ (by omega) (by omega) (by omega) (by omega) hQ
set_option maxRecDepth 100000 in
set_option maxHeartbeats 400000 in
theorem k_M_set {l1 : Int} {l2 : Int} {l3 : Int} {g : zi_M} {Q : Int → zi_M → Prop} (I : zk_I g) (p1 : (-2147483648) ≤ l1 ∧ l1 ≤ 2147483647) (p2 : (-2147483648) ≤ l2 ∧ l2 ≤ 2147483647) (p3 : (-2147483648) ≤ l3 ∧ l3 ≤ 2147483647) (hQ : ∀ (v : Int) (g' : zi_M), zk_I g' → zk_fr fr_M_set g g' → (0 ≤ v ∧ v ≤ 1) → Q v g') : w_M_set l1 l2 l3 g Q := by
  unfold w_M_set
  intro g1 e_1
  have I_2 : zk_I g1 := by rw [e_1]; exact zk_upd (L := (-2147483648)) (H := 2147483647) rfl rfl I ⟨by omega, by omega⟩
  have F_3 : zk_fr fr_M_set g g1 := by rw [e_1]; exact zk_fu (zk_f0 _) (Or.inr (Or.inr (Or.inl ⟨rfl, rfl⟩)))
  refine k_M_canSet I_2 ⟨by omega, by omega⟩ ⟨by omega, by omega⟩ ⟨by omega, by omega⟩ (fun v2 b_4 b_5 b_6 b_7 b_8 => ?_)
  refine ⟨fun c22 => ?_, fun c22 => ?_⟩
  · refine ⟨⟨by omega, by omega⟩, ?_⟩
    refine ⟨fun c21 => ?_, fun c21 => ?_⟩
    · exact k_M_set_b28 I_2 F_3 ⟨by omega, by omega⟩ ⟨by omega, by omega⟩ ⟨by omega, by omega⟩ (by omega) (by omega) (by omega) (by omega) hQ
    · intro g20 e_24
      have I_25 : zk_I g20 := by rw [e_24]; exact zk_upd (zk_nl3 (i := 3) (by omega)).1 (zk_nl3 (i := 3) (by omega)).2 I_2 ⟨by omega, by omega⟩
      have F_26 : zk_fr fr_M_set g g20 := by rw [e_24]; exact zk_fu F_3 (Or.inl rfl)
      exact k_M_set_b28 I_25 F_26 ⟨by omega, by omega⟩ ⟨by omega, by omega⟩ ⟨by omega, by omega⟩ (by omega) (by omega) (by omega) (by omega) hQ
  · exact hQ _ _ I_2 F_3 ⟨by omega, by omega⟩
-- SpoutNews$World.countOfWho(I)I
set_option maxRecDepth 100000 in
set_option maxHeartbeats 400000 in
theorem k_World_countOfWho {r0 : Nat} (hr0 : zs_sh r0 = some (10, 20)) {l1 : Int} {g : zi_M} {Q : Int → zi_M → Prop} (I : zk_I g) (p1 : (-2147483648) ≤ l1 ∧ l1 ≤ 2147483647) (hQ : ∀ v : Int, ((l1 = 0 ∨ l1 = 1 ∨ l1 = 6) → v = g r0 11) → ((l1 = 2 ∨ l1 = 7) → v = 6) → ((l1 = 3 ∨ l1 = 4 ∨ l1 = 5) → v = g r0 8) → (¬ l1 = 0 → ¬ l1 = 1 → ¬ l1 = 2 → ¬ l1 = 3 → ¬ l1 = 4 → ¬ l1 = 5 → ¬ l1 = 6 → ¬ l1 = 7 → v = 0) → Q v g) : w_World_countOfWho r0 l1 g Q := by
  unfold w_World_countOfWho
  refine ⟨⟨by omega, by omega⟩, ?_⟩
  refine ⟨fun c2 => ?_, fun c2 => ?_, fun c2 => ?_, fun c2 => ?_, fun c2 => ?_, fun c2 => ?_, fun c2 => ?_, fun c2 => ?_, fun c2 => ?_⟩
  · have m_1 := zk_c10_11 hr0 I
    have m_2 := zk_c10_8 hr0 I
    exact hQ _ (by intros; omega) (by intros; omega) (by intros; omega) (by intros; omega)
  · have m_3 := zk_c10_11 hr0 I
    have m_4 := zk_c10_8 hr0 I
    exact hQ _ (by intros; omega) (by intros; omega) (by intros; omega) (by intros; omega)
  · have m_5 := zk_c10_11 hr0 I
    have m_6 := zk_c10_8 hr0 I
    exact hQ _ (by intros; omega) (by intros; omega) (by intros; omega) (by intros; omega)
  · have m_7 := zk_c10_11 hr0 I
    have m_8 := zk_c10_8 hr0 I
    exact hQ _ (by intros; omega) (by intros; omega) (by intros; omega) (by intros; omega)
  · have m_9 := zk_c10_8 hr0 I
    have m_10 := zk_c10_11 hr0 I
    exact hQ _ (by intros; omega) (by intros; omega) (by intros; omega) (by intros; omega)
  · have m_11 := zk_c10_8 hr0 I
    have m_12 := zk_c10_11 hr0 I
    exact hQ _ (by intros; omega) (by intros; omega) (by intros; omega) (by intros; omega)
  · have m_13 := zk_c10_8 hr0 I
    have m_14 := zk_c10_11 hr0 I
    exact hQ _ (by intros; omega) (by intros; omega) (by intros; omega) (by intros; omega)
  · have m_15 := zk_c10_11 hr0 I
    have m_16 := zk_c10_8 hr0 I
    exact hQ _ (by intros; omega) (by intros; omega) (by intros; omega) (by intros; omega)
  · have m_17 := zk_c10_11 hr0 I
    have m_18 := zk_c10_8 hr0 I
    exact hQ _ (by intros; omega) (by intros; omega) (by intros; omega) (by intros; omega)
-- SpoutNews$World.countOfWhat(I)I
set_option maxRecDepth 100000 in
set_option maxHeartbeats 400000 in
theorem k_World_countOfWhat {r0 : Nat} (hr0 : zs_sh r0 = some (10, 20)) {l1 : Int} {g : zi_M} {Q : Int → zi_M → Prop} (I : zk_I g) (p1 : (-2147483648) ≤ l1 ∧ l1 ≤ 2147483647) (hQ : ∀ v : Int, ((l1 = 0 ∨ l1 = 2) → v = g r0 8) → ((l1 = 6) → v = 16) → (¬ l1 = 0 → ¬ l1 = 2 → ¬ l1 = 6 → v = (-1)) → Q v g) : w_World_countOfWhat r0 l1 g Q := by
  unfold w_World_countOfWhat
  refine ⟨⟨by omega, by omega⟩, ?_⟩
  refine ⟨fun c2_0 c2_1 c2_2 => ?_, fun c2 => ?_, fun c2 => ?_, fun c2 => ?_⟩
  · have m_1 := zk_c10_8 hr0 I
    exact hQ _ (by intros; omega) (by intros; omega) (by intros; omega)
  · have m_2 := zk_c10_8 hr0 I
    exact hQ _ (by intros; omega) (by intros; omega) (by intros; omega)
  · have m_3 := zk_c10_8 hr0 I
    exact hQ _ (by intros; omega) (by intros; omega) (by intros; omega)
  · have m_4 := zk_c10_8 hr0 I
    exact hQ _ (by intros; omega) (by intros; omega) (by intros; omega)
-- SpoutNews$World.canDo(III)Z
set_option maxRecDepth 100000 in
set_option maxHeartbeats 400000 in
theorem k_World_canDo {r0 : Nat} (hr0 : zs_sh r0 = some (10, 20)) {l1 : Int} {l2 : Int} {l3 : Int} {g : zi_M} {Q : Int → zi_M → Prop} (I : zk_I g) (p1 : (-2147483648) ≤ l1 ∧ l1 ≤ 2147483647) (p2 : (-2147483648) ≤ l2 ∧ l2 ≤ 2147483647) (p3 : (-2147483648) ≤ l3 ∧ l3 ≤ 2147483647) (hQ : ∀ v : Int, (0 ≤ v ∧ v ≤ 1) → (¬ v = 0 ∧ (l1 = 0) → 0 ≤ l2 ∧ l2 ≤ 7 ∧ 0 ≤ l3 ∧ l3 ≤ 9) → (¬ v = 0 ∧ (l1 = 1) → 0 ≤ l2 ∧ l2 ≤ 7) → (¬ v = 0 ∧ (l1 = 2) → 0 ≤ l2 ∧ l2 < 6 ∧ 0 ≤ l3 ∧ l3 ≤ 9) → (¬ v = 0 ∧ (3 ≤ l1 ∧ l1 ≤ 5) → 0 ≤ l2 ∧ l2 ≤ 9) → (¬ v = 0 ∧ (l1 = 6) → 0 ≤ l2 ∧ l2 ≤ 7 ∧ 0 ≤ l3 ∧ l3 < 16) → (¬ v = 0 ∧ (l1 < 0 ∨ 6 < l1) → 0 ≤ l2 ∧ l2 < 6) → Q v g) : w_World_canDo r0 l1 l2 l3 g Q := by
  unfold w_World_canDo
  refine ⟨⟨by omega, by omega⟩, ?_⟩
  refine ⟨fun c15 => ?_, fun c15 => ?_⟩
  · exact hQ _ ⟨by omega, by omega⟩ (by omega) (by omega) (by omega) (by omega) (by omega) (by omega)
  · have m_5 := zk_c10_11 hr0 I
    have m_6 := zk_c10_8 hr0 I
    refine k_World_countOfWho hr0 I ⟨by omega, by omega⟩ (fun v2 b_1 b_2 b_3 b_4 => ?_)
    refine ⟨⟨by omega, by omega⟩, ?_⟩
    refine ⟨fun c14 => ?_, fun c14 => ?_⟩
    · refine k_World_countOfWhat hr0 I ⟨by omega, by omega⟩ (fun v6 b_7 b_8 b_9 => ?_)
      refine ⟨⟨by omega, by omega⟩, ?_⟩
      refine ⟨fun c13 => ?_, fun c13 => ?_⟩
      · exact hQ _ ⟨by omega, by omega⟩ (by omega) (by omega) (by omega) (by omega) (by omega) (by omega)
      · refine ⟨⟨by omega, by omega⟩, ?_⟩
        refine ⟨fun c12 => ?_, fun c12 => ?_⟩
        · exact hQ _ ⟨by omega, by omega⟩ (by omega) (by omega) (by omega) (by omega) (by omega) (by omega)
        · refine ⟨fun c11 => ?_, fun c11 => ?_⟩
          · exact hQ _ ⟨by omega, by omega⟩ (by omega) (by omega) (by omega) (by omega) (by omega) (by omega)
          · exact hQ _ ⟨by omega, by omega⟩ (by omega) (by omega) (by omega) (by omega) (by omega) (by omega)
    · exact hQ _ ⟨by omega, by omega⟩ (by omega) (by omega) (by omega) (by omega) (by omega) (by omega)
-- SpoutNews$World.copyFrom(LSpoutNews$World;)V
def fr_World_copyFrom (r0 : Nat) (r1 : Nat) (a : Nat) (i : Int) : Prop := a = r0 + 1 ∨ a = r0 + 10 ∨ a = r0 + 11 ∨ a = r0 + 2 ∨ a = r0 + 3 ∨ a = r0 + 4 ∨ a = r0 + 5 ∨ a = r0 + 6 ∨ a = r0 + 7 ∨ a = r0 + 8 ∨ a = r0 + 9 ∨ (a = r0 ∧ i = 11) ∨ (a = r0 ∧ i = 14) ∨ (a = r0 ∧ i = 15) ∨ (a = r0 ∧ i = 16) ∨ (a = r0 ∧ i = 17) ∨ (a = r0 ∧ i = 18) ∨ (a = r0 ∧ i = 19) ∨ (a = r0 ∧ i = 8)
set_option maxRecDepth 100000 in
set_option maxHeartbeats 400000 in
theorem k_World_copyFrom {r0 : Nat} (hr0 : zs_sh r0 = some (10, 20)) {r1 : Nat} (hr1 : zs_sh r1 = some (10, 20)) {g : zi_M} {Q : Int → zi_M → Prop} (I : zk_I g) (hQ : ∀ g' : zi_M, zk_I g' → zk_fr (fr_World_copyFrom r0 r1) g g' → Q 0 g') : w_World_copyFrom r0 r1 g Q := by
  sorry
-- SpoutNews$Past.keep(LSpoutNews$World;)V
def fr_Past_keep (a : Nat) (i : Int) : Prop := (a = 91 ∧ i = 1) ∨ (a = 91 ∧ i = 2) ∨ (93 ≤ a ∧ a ≤ 164)
set_option maxRecDepth 100000 in
set_option maxHeartbeats 400000 in
theorem k_Past_keep {g : zi_M} {Q : Int → zi_M → Prop} (I : zk_I g) (hQ : ∀ g' : zi_M, zk_I g' → zk_fr fr_Past_keep g g' → Q 0 g') : w_Past_keep g Q := by
  unfold w_Past_keep
  have m_1 : 0 ≤ (g 91 2) ∧ (g 91 2) ≤ 5 := I 91 2
  refine ⟨⟨by omega, by omega⟩, ?_⟩
  refine k_World_copyFrom (zs_ring ⟨by omega, by omega⟩).2 rfl I (fun g3 I_2 F_3 => ?_)
  have F_4 : zk_fr fr_Past_keep g g3 := zk_ft (zk_f0 _) F_3 (fun a i => (fun h => Or.elim h (fun h => (Or.inr (Or.inr ⟨by omega, by omega⟩))) (fun h => Or.elim h (fun h => (Or.inr (Or.inr ⟨by omega, by omega⟩))) (fun h => Or.elim h (fun h => (Or.inr (Or.inr ⟨by omega, by omega⟩))) (fun h => Or.elim h (fun h => (Or.inr (Or.inr ⟨by omega, by omega⟩))) (fun h => Or.elim h (fun h => (Or.inr (Or.inr ⟨by omega, by omega⟩))) (fun h => Or.elim h (fun h => (Or.inr (Or.inr ⟨by omega, by omega⟩))) (fun h => Or.elim h (fun h => (Or.inr (Or.inr ⟨by omega, by omega⟩))) (fun h => Or.elim h (fun h => (Or.inr (Or.inr ⟨by omega, by omega⟩))) (fun h => Or.elim h (fun h => (Or.inr (Or.inr ⟨by omega, by omega⟩))) (fun h => Or.elim h (fun h => (Or.inr (Or.inr ⟨by omega, by omega⟩))) (fun h => Or.elim h (fun h => (Or.inr (Or.inr ⟨by omega, by omega⟩))) (fun h => Or.elim h (fun h => (Or.inr (Or.inr ⟨by omega, by omega⟩))) (fun h => Or.elim h (fun h => (Or.inr (Or.inr ⟨by omega, by omega⟩))) (fun h => Or.elim h (fun h => (Or.inr (Or.inr ⟨by omega, by omega⟩))) (fun h => Or.elim h (fun h => (Or.inr (Or.inr ⟨by omega, by omega⟩))) (fun h => Or.elim h (fun h => (Or.inr (Or.inr ⟨by omega, by omega⟩))) (fun h => Or.elim h (fun h => (Or.inr (Or.inr ⟨by omega, by omega⟩))) (fun h => Or.elim h (fun h => (Or.inr (Or.inr ⟨by omega, by omega⟩))) (fun h => (Or.inr (Or.inr ⟨by omega, by omega⟩))))))))))))))))))))))
  have m_5 : 0 ≤ (g3 91 2) ∧ (g3 91 2) ≤ 5 := I_2 91 2
  have m_6 : g3 91 2 = g 91 2 := F_3 _ _ (by unfold fr_World_copyFrom; omega)
  refine ⟨⟨by omega, by omega⟩, ?_⟩
  have m_10 := zi_tmod_f ((g3 91 2) + 1) 6
  have m_11 := zi_tmod_c ((g3 91 2) + 1) 6 (by decide)
  intro g6 e_7
  have I_8 : zk_I g6 := by rw [e_7]; exact zk_upd (L := 0) (H := 5) rfl rfl I_2 ⟨by omega, by omega⟩
  have F_9 : zk_fr fr_Past_keep g g6 := by rw [e_7]; exact zk_fu F_4 (Or.inr (Or.inl ⟨rfl, rfl⟩))
  have m_12 : 0 ≤ (g6 91 1) ∧ (g6 91 1) ≤ 6 := I_8 91 1
  have m_13 : g6 91 1 = g3 91 1 := by rw [e_7]; exact zi_u_ni (by decide)
  have m_14 : 0 ≤ (g3 91 1) ∧ (g3 91 1) ≤ 6 := I_2 91 1
  have m_15 : g3 91 1 = g 91 1 := F_3 _ _ (by unfold fr_World_copyFrom; omega)
  have m_16 : 0 ≤ (g 91 1) ∧ (g 91 1) ≤ 6 := I 91 1
  refine ⟨⟨by omega, by omega⟩, ?_⟩
  intro g8 e_17
  have I_18 : zk_I g8 := by rw [e_17]; exact zk_upd (L := 0) (H := 6) rfl rfl I_8 ⟨by omega, by omega⟩
  have F_19 : zk_fr fr_Past_keep g g8 := by rw [e_17]; exact zk_fu F_9 (Or.inl ⟨rfl, rfl⟩)
  exact hQ _ I_18 F_19
-- SpoutNews$World.carryOut(III)V
def fr_World_carryOut (r0 : Nat) (a : Nat) (i : Int) : Prop := a = r0 + 10 ∨ a = r0 + 11 ∨ a = r0 + 4 ∨ a = r0 + 8 ∨ a = r0 + 9
set_option maxRecDepth 100000 in
set_option maxHeartbeats 400000 in
theorem k_World_carryOut {r0 : Nat} (hr0 : zs_sh r0 = some (10, 20)) {l1 : Int} {l2 : Int} {l3 : Int} {g : zi_M} {Q : Int → zi_M → Prop} (I : zk_I g) (p1 : (-2147483648) ≤ l1 ∧ l1 ≤ 2147483647) (p2 : (-2147483648) ≤ l2 ∧ l2 ≤ 2147483647) (p3 : (-2147483648) ≤ l3 ∧ l3 ≤ 2147483647) (hQ : ∀ g' : zi_M, zk_I g' → zk_fr (fr_World_carryOut r0) g g' → Q 0 g') : w_World_carryOut r0 l1 l2 l3 g Q := by
  unfold w_World_carryOut
  refine k_World_canDo hr0 I ⟨by omega, by omega⟩ ⟨by omega, by omega⟩ ⟨by omega, by omega⟩ (fun v1 b_1 b_2 b_3 b_4 b_5 b_6 b_7 => ?_)
  refine ⟨fun c22 => ?_, fun c22 => ?_⟩
  · refine ⟨⟨by omega, by omega⟩, ?_⟩
    refine ⟨fun c5 => ?_, fun c5 => ?_, fun c5 => ?_, fun c5 => ?_, fun c5 => ?_, fun c5 => ?_, fun c5 => ?_, fun c5 => ?_⟩
    · refine ⟨⟨by omega, by omega⟩, ?_⟩
      intro g7 e_8
      have I_9 : zk_I g7 := by rw [e_8]; exact zk_upd (zk_la10_11 hr0).1 (zk_la10_11 hr0).2 I ⟨by omega, by omega⟩
      have F_10 : zk_fr (fr_World_carryOut r0) g g7 := by rw [e_8]; exact zk_fu (zk_f0 _) (Or.inr (Or.inl rfl))
      exact hQ _ I_9 F_10
    · refine ⟨⟨by omega, by omega⟩, ?_⟩
      intro g9 e_11
      have I_12 : zk_I g9 := by rw [e_11]; exact zk_upd (zk_la10_9 hr0).1 (zk_la10_9 hr0).2 I ⟨by omega, by omega⟩
      have F_13 : zk_fr (fr_World_carryOut r0) g g9 := by rw [e_11]; exact zk_fu (zk_f0 _) (Or.inr (Or.inr (Or.inr (Or.inr rfl))))
      exact hQ _ I_12 F_13
    · refine ⟨⟨by omega, by omega⟩, ?_⟩
      intro g11 e_14
      have I_15 : zk_I g11 := by rw [e_14]; exact zk_upd (zk_la10_9 hr0).1 (zk_la10_9 hr0).2 I ⟨by omega, by omega⟩
      have F_16 : zk_fr (fr_World_carryOut r0) g g11 := by rw [e_14]; exact zk_fu (zk_f0 _) (Or.inr (Or.inr (Or.inr (Or.inr rfl))))
      exact hQ _ I_15 F_16
    · refine ⟨⟨by omega, by omega⟩, ?_⟩
      intro g13 e_17
      have I_18 : zk_I g13 := by rw [e_17]; exact zk_upd (zk_la10_10 hr0).1 (zk_la10_10 hr0).2 I ⟨by omega, by omega⟩
      have F_19 : zk_fr (fr_World_carryOut r0) g g13 := by rw [e_17]; exact zk_fu (zk_f0 _) (Or.inl rfl)
      exact hQ _ I_18 F_19
    · refine ⟨⟨by omega, by omega⟩, ?_⟩
      intro g15 e_20
      have I_21 : zk_I g15 := by rw [e_20]; exact zk_upd (zk_la10_4 hr0).1 (zk_la10_4 hr0).2 I ⟨by omega, by omega⟩
      have F_22 : zk_fr (fr_World_carryOut r0) g g15 := by rw [e_20]; exact zk_fu (zk_f0 _) (Or.inr (Or.inr (Or.inl rfl)))
      exact hQ _ I_21 F_22
    · refine ⟨⟨by omega, by omega⟩, ?_⟩
      intro g17 e_23
      have I_24 : zk_I g17 := by rw [e_23]; exact zk_upd (zk_la10_4 hr0).1 (zk_la10_4 hr0).2 I ⟨by omega, by omega⟩
      have F_25 : zk_fr (fr_World_carryOut r0) g g17 := by rw [e_23]; exact zk_fu (zk_f0 _) (Or.inr (Or.inr (Or.inl rfl)))
      exact hQ _ I_24 F_25
    · refine ⟨⟨by omega, by omega⟩, ?_⟩
      intro g19 e_26
      have I_27 : zk_I g19 := by rw [e_26]; exact zk_upd (zk_la10_4 hr0).1 (zk_la10_4 hr0).2 I ⟨by omega, by omega⟩
      have F_28 : zk_fr (fr_World_carryOut r0) g g19 := by rw [e_26]; exact zk_fu (zk_f0 _) (Or.inr (Or.inr (Or.inl rfl)))
      exact hQ _ I_27 F_28
    · refine ⟨⟨by omega, by omega⟩, ?_⟩
      have m_32 := zk_a10_8 hr0 I l2
      have m_33 := zi_shl_f l3
      have m_34 := zi_or_f (g (r0 + 8) l2) (zi_shl 1 l3)
      intro g21 e_29
      have I_30 : zk_I g21 := by rw [e_29]; exact zk_upd (zk_la10_8 hr0).1 (zk_la10_8 hr0).2 I ⟨by omega, by omega⟩
      have F_31 : zk_fr (fr_World_carryOut r0) g g21 := by rw [e_29]; exact zk_fu (zk_f0 _) (Or.inr (Or.inr (Or.inr (Or.inl rfl))))
      exact hQ _ I_30 F_31
  · exact hQ _ I (zk_f0 _)
-- SpoutNews.act(III)Z
def fr_S_act (a : Nat) (i : Int) : Prop := a = 10 ∨ a = 11 ∨ a = 12 ∨ a = 13 ∨ a = 6 ∨ (a = 91 ∧ i = 1) ∨ (a = 91 ∧ i = 2) ∨ (93 ≤ a ∧ a ≤ 164)
set_option maxRecDepth 100000 in
set_option maxHeartbeats 400000 in
theorem k_S_act {l1 : Int} {l2 : Int} {l3 : Int} {g : zi_M} {Q : Int → zi_M → Prop} (I : zk_I g) (p1 : (-2147483648) ≤ l1 ∧ l1 ≤ 2147483647) (p2 : (-2147483648) ≤ l2 ∧ l2 ≤ 2147483647) (p3 : (-2147483648) ≤ l3 ∧ l3 ≤ 2147483647) (hQ : ∀ (v : Int) (g' : zi_M), zk_I g' → zk_fr fr_S_act g g' → (0 ≤ v ∧ v ≤ 1) → Q v g') : w_S_act l1 l2 l3 g Q := by
  unfold w_S_act
  refine k_World_canDo rfl I ⟨by omega, by omega⟩ ⟨by omega, by omega⟩ ⟨by omega, by omega⟩ (fun v1 b_1 b_2 b_3 b_4 b_5 b_6 b_7 => ?_)
  refine ⟨fun c10 => ?_, fun c10 => ?_⟩
  · refine k_Past_keep I (fun g5 I_8 F_9 => ?_)
    have F_10 : zk_fr fr_S_act g g5 := zk_ft (zk_f0 _) F_9 (fun a i => (fun h => Or.elim h (fun h => (Or.inr (Or.inr (Or.inr (Or.inr (Or.inr (Or.inl h))))))) (fun h => Or.elim h (fun h => (Or.inr (Or.inr (Or.inr (Or.inr (Or.inr (Or.inr (Or.inl h)))))))) (fun h => (Or.inr (Or.inr (Or.inr (Or.inr (Or.inr (Or.inr (Or.inr h)))))))))))
    refine k_World_carryOut rfl I_8 ⟨by omega, by omega⟩ ⟨by omega, by omega⟩ ⟨by omega, by omega⟩ (fun g8 I_11 F_12 => ?_)
    have F_13 : zk_fr fr_S_act g g8 := zk_ft F_10 F_12 (fun a i => (fun h => Or.elim h (fun h => (Or.inr (Or.inr (Or.inl h)))) (fun h => Or.elim h (fun h => (Or.inr (Or.inr (Or.inr (Or.inl h))))) (fun h => Or.elim h (fun h => (Or.inr (Or.inr (Or.inr (Or.inr (Or.inl h)))))) (fun h => Or.elim h (fun h => (Or.inl h)) (fun h => (Or.inr (Or.inl h))))))))
    exact hQ _ _ I_11 F_13 ⟨by omega, by omega⟩
  · exact hQ _ _ I (zk_f0 _) ⟨by omega, by omega⟩
-- SpoutNewsModel.canAct(III)Z
set_option maxRecDepth 100000 in
set_option maxHeartbeats 400000 in
theorem k_M_canAct {l1 : Int} {l2 : Int} {l3 : Int} {g : zi_M} {Q : Int → zi_M → Prop} (I : zk_I g) (p1 : (-2147483648) ≤ l1 ∧ l1 ≤ 2147483647) (p2 : (-2147483648) ≤ l2 ∧ l2 ≤ 2147483647) (p3 : (-2147483648) ≤ l3 ∧ l3 ≤ 2147483647) (hQ : ∀ v : Int, (0 ≤ v ∧ v ≤ 1) → (¬ v = 0 ∧ (l1 = 0) → 0 ≤ l2 ∧ l2 ≤ 7 ∧ 0 ≤ l3 ∧ l3 ≤ 9) → (¬ v = 0 ∧ (l1 = 1) → 0 ≤ l2 ∧ l2 ≤ 7) → (¬ v = 0 ∧ (l1 = 2) → 0 ≤ l2 ∧ l2 ≤ 5 ∧ 0 ≤ l3 ∧ l3 ≤ 9) → (¬ v = 0 ∧ (3 ≤ l1 ∧ l1 ≤ 5) → 0 ≤ l2 ∧ l2 ≤ 9) → (¬ v = 0 ∧ (l1 = 6) → 0 ≤ l2 ∧ l2 ≤ 7) → (¬ v = 0 ∧ (l1 = 7) → 0 ≤ l2 ∧ l2 ≤ 5) → Q v g) : w_M_canAct l1 l2 l3 g Q := by
  unfold w_M_canAct
  refine ⟨⟨by omega, by omega⟩, ?_⟩
  refine ⟨fun c44 => ?_, fun c44 => ?_⟩
  · refine ⟨fun c35 => ?_, fun c35 => ?_⟩
    · refine ⟨fun c31 => ?_, fun c31 => ?_⟩
      · refine ⟨fun c22 => ?_, fun c22 => ?_⟩
        · refine ⟨fun c13 => ?_, fun c13 => ?_⟩
          · refine k_M_isIn I ⟨by omega, by omega⟩ ⟨by omega, by omega⟩ ⟨by omega, by omega⟩ (fun v2 b_1 b_2 b_3 => ?_)
            refine ⟨fun c9 => ?_, fun c9 => ?_⟩
            · exact hQ _ ⟨by omega, by omega⟩ (by omega) (by omega) (by omega) (by omega) (by omega) (by omega)
            · have m_7 : 0 ≤ (g 214 6) ∧ (g 214 6) ≤ 10 := I 214 6
              refine k_M_isSpout I ⟨by omega, by omega⟩ (fun v5 b_4 b_5 b_6 => ?_)
              refine ⟨fun c8 => ?_, fun c8 => ?_⟩
              · exact hQ _ ⟨by omega, by omega⟩ (by omega) (by omega) (by omega) (by omega) (by omega) (by omega)
              · exact hQ _ ⟨by omega, by omega⟩ (by omega) (by omega) (by omega) (by omega) (by omega) (by omega)
          · refine k_M_isIn I ⟨by omega, by omega⟩ ⟨by omega, by omega⟩ ⟨by omega, by omega⟩ (fun v10 b_8 b_9 b_10 => ?_)
            exact hQ _ ⟨by omega, by omega⟩ (by omega) (by omega) (by omega) (by omega) (by omega) (by omega)
        · refine k_M_isIn I ⟨by omega, by omega⟩ ⟨by omega, by omega⟩ ⟨by omega, by omega⟩ (fun v14 b_11 b_12 b_13 => ?_)
          refine ⟨fun c21 => ?_, fun c21 => ?_⟩
          · exact hQ _ ⟨by omega, by omega⟩ (by omega) (by omega) (by omega) (by omega) (by omega) (by omega)
          · have m_17 : 0 ≤ (g 214 6) ∧ (g 214 6) ≤ 10 := I 214 6
            refine k_M_isSpout I ⟨by omega, by omega⟩ (fun v17 b_14 b_15 b_16 => ?_)
            refine ⟨fun c20 => ?_, fun c20 => ?_⟩
            · exact hQ _ ⟨by omega, by omega⟩ (by omega) (by omega) (by omega) (by omega) (by omega) (by omega)
            · exact hQ _ ⟨by omega, by omega⟩ (by omega) (by omega) (by omega) (by omega) (by omega) (by omega)
      · have m_21 : 0 ≤ (g 214 7) ∧ (g 214 7) ≤ 8 := I 214 7
        refine k_M_isSitter I ⟨by omega, by omega⟩ (fun v23 b_18 b_19 b_20 => ?_)
        refine ⟨fun c30 => ?_, fun c30 => ?_⟩
        · exact hQ _ ⟨by omega, by omega⟩ (by omega) (by omega) (by omega) (by omega) (by omega) (by omega)
        · refine k_M_isIn I ⟨by omega, by omega⟩ ⟨by omega, by omega⟩ ⟨by omega, by omega⟩ (fun v26 b_22 b_23 b_24 => ?_)
          refine ⟨fun c29 => ?_, fun c29 => ?_⟩
          · exact hQ _ ⟨by omega, by omega⟩ (by omega) (by omega) (by omega) (by omega) (by omega) (by omega)
          · exact hQ _ ⟨by omega, by omega⟩ (by omega) (by omega) (by omega) (by omega) (by omega) (by omega)
    · have m_28 : 0 ≤ (g 214 7) ∧ (g 214 7) ≤ 8 := I 214 7
      refine k_M_isSitter I ⟨by omega, by omega⟩ (fun v32 b_25 b_26 b_27 => ?_)
      exact hQ _ ⟨by omega, by omega⟩ (by omega) (by omega) (by omega) (by omega) (by omega) (by omega)
  · have m_32 : 0 ≤ (g 214 7) ∧ (g 214 7) ≤ 8 := I 214 7
    refine k_M_isSitter I ⟨by omega, by omega⟩ (fun v36 b_29 b_30 b_31 => ?_)
    refine ⟨fun c43 => ?_, fun c43 => ?_⟩
    · exact hQ _ ⟨by omega, by omega⟩ (by omega) (by omega) (by omega) (by omega) (by omega) (by omega)
    · have m_36 : 0 ≤ (g 214 6) ∧ (g 214 6) ≤ 10 := I 214 6
      refine k_M_isSpout I ⟨by omega, by omega⟩ (fun v39 b_33 b_34 b_35 => ?_)
      refine ⟨fun c42 => ?_, fun c42 => ?_⟩
      · exact hQ _ ⟨by omega, by omega⟩ (by omega) (by omega) (by omega) (by omega) (by omega) (by omega)
      · exact hQ _ ⟨by omega, by omega⟩ (by omega) (by omega) (by omega) (by omega) (by omega) (by omega)
-- SpoutNewsModel.keepsAhead()V
def fr_M_keepsAhead (a : Nat) (i : Int) : Prop := a = 216 ∨ (a = 214 ∧ i = 3)
set_option maxRecDepth 100000 in
set_option maxHeartbeats 400000 in
theorem k_M_keepsAhead {g : zi_M} {Q : Int → zi_M → Prop} (I : zk_I g) (hQ : ∀ g' : zi_M, zk_I g' → zk_fr fr_M_keepsAhead g g' → Q 0 g') : w_M_keepsAhead g Q := by
  sorry
-- SpoutNewsModel.acts(III)V
def fr_M_acts (a : Nat) (i : Int) : Prop := a = 215
set_option maxRecDepth 100000 in
set_option maxHeartbeats 400000 in
theorem k_M_acts {l1 : Int} {l2 : Int} {l3 : Int} {g : zi_M} {Q : Int → zi_M → Prop} (I : zk_I g) (p1 : (-2147483648) ≤ l1 ∧ l1 ≤ 2147483647) (p2 : (-2147483648) ≤ l2 ∧ l2 ≤ 2147483647) (p3 : (-2147483648) ≤ l3 ∧ l3 ≤ 2147483647) (px0 : l1 = 0 → 0 ≤ l2 ∧ l2 ≤ 7 ∧ 0 ≤ l3 ∧ l3 ≤ 9) (px1 : l1 = 1 → 0 ≤ l2 ∧ l2 ≤ 7) (px2 : l1 = 2 → 0 ≤ l2 ∧ l2 ≤ 5 ∧ 0 ≤ l3 ∧ l3 ≤ 9) (px3 : 3 ≤ l1 ∧ l1 ≤ 5 → 0 ≤ l2 ∧ l2 ≤ 9) (px4 : l1 = 6 → 0 ≤ l2 ∧ l2 ≤ 7) (px5 : l1 = 7 → 0 ≤ l2 ∧ l2 ≤ 5) (hQ : ∀ g' : zi_M, zk_I g' → zk_fr fr_M_acts g g' → Q 0 g') : w_M_acts l1 l2 l3 g Q := by
  sorry
