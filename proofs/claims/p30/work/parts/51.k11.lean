-- by program (wip/gen/mkz.py)
-- SpoutNewsModel.who(II)I
def fr_M_who (a : Nat) (i : Int) : Prop := (a = 214 ∧ i = 0)
set_option maxRecDepth 100000 in
set_option maxHeartbeats 400000 in
theorem k_M_who {l1 : Int} {l2 : Int} {g : zi_M} {Q : Int → zi_M → Prop} (I : zk_I g) (p1 : (-2147483648) ≤ l1 ∧ l1 ≤ 2147483647) (p2 : (-2147483648) ≤ l2 ∧ l2 ≤ 2147483647) (hQ : ∀ (v : Int) (g' : zi_M), zk_I g' → zk_fr fr_M_who g g' → ((-2147483649) ≤ v ∧ v ≤ 2147483647) → Q v g') : w_M_who l1 l2 g Q := by
  unfold w_M_who
  intro g1 e_1
  have I_2 : zk_I g1 := by rw [e_1]; exact zk_upd (L := (-2147483648)) (H := 2147483647) rfl rfl I ⟨by omega, by omega⟩
  have F_3 : zk_fr fr_M_who g g1 := by rw [e_1]; exact zk_fu (zk_f0 _) ⟨rfl, rfl⟩
  have m_7 : 0 ≤ (g1 214 7) ∧ (g1 214 7) ≤ 8 := I_2 214 7
  have m_8 : g1 214 7 = g 214 7 := by rw [e_1]; exact zi_u_ni (by decide)
  have m_9 : 0 ≤ (g 214 7) ∧ (g 214 7) ≤ 8 := I 214 7
  refine k_M_isSitter I_2 ⟨by omega, by omega⟩ (fun v2 b_4 b_5 b_6 => ?_)
  refine ⟨fun c10 => ?_, fun c10 => ?_⟩
  · refine ⟨⟨by omega, by omega⟩, ?_⟩
    refine ⟨fun c9 => ?_, fun c9 => ?_⟩
    · refine ⟨fun c7 => ?_, fun c7 => ?_⟩
      · exact hQ _ _ I_2 F_3 ⟨by omega, by omega⟩
      · refine ⟨⟨by omega, by omega⟩, ?_⟩
        have m_10 := zk_now244 I_2 (i := (244 + l1)) (by omega)
        have m_11 : g1 215 (244 + l1) = g 215 (244 + l1) := by rw [e_1]; exact zi_u_ne (by decide)
        have m_12 := zk_now244 I (i := (244 + l1)) (by omega)
        exact hQ _ _ I_2 F_3 ⟨by omega, by omega⟩
    · refine ⟨⟨by omega, by omega⟩, ?_⟩
      have m_13 := zk_rng I_2 215 (236 + l1)
      have m_14 : g1 215 (236 + l1) = g 215 (236 + l1) := by rw [e_1]; exact zi_u_ne (by decide)
      have m_15 := zk_rng I 215 (236 + l1)
      exact hQ _ _ I_2 F_3 ⟨by omega, by omega⟩
  · exact hQ _ _ I_2 F_3 ⟨by omega, by omega⟩
-- SpoutNews.jar(II)I
set_option maxRecDepth 100000 in
set_option maxHeartbeats 400000 in
theorem k_S_jar {l1 : Int} {l2 : Int} {g : zi_M} {Q : Int → zi_M → Prop} (I : zk_I g) (p1 : (-2147483648) ≤ l1 ∧ l1 ≤ 2147483647) (p2 : (-2147483648) ≤ l2 ∧ l2 ≤ 2147483647) (hQ : ∀ v : Int, (l1 < 0 → v = (-2)) → (0 ≤ l1 → l1 < 6 → (l2 = 0) → v = g 12 l1) → (0 ≤ l1 → l1 < 6 → (l2 = 1) → v = g 13 l1) → (0 ≤ l1 → l1 < 6 → ¬ l2 = 0 → ¬ l2 = 1 → v = (-2)) → (0 ≤ l1 → 6 ≤ l1 → v = (-2)) → Q v g) : w_S_jar l1 l2 g Q := by
  unfold w_S_jar
  refine ⟨⟨by omega, by omega⟩, ?_⟩
  refine ⟨fun c7 => ?_, fun c7 => ?_⟩
  · have m_1 : (-1) ≤ (g 12 l1) ∧ (g 12 l1) ≤ 9 := I 12 l1
    have m_2 : (-2147483648) ≤ (g 13 l1) ∧ (g 13 l1) ≤ 2147483647 := I 13 l1
    exact hQ _ (by intros; omega) (by intros; omega) (by intros; omega) (by intros; omega) (by intros; omega)
  · refine ⟨fun c6 => ?_, fun c6 => ?_⟩
    · refine ⟨⟨by omega, by omega⟩, ?_⟩
      refine ⟨fun c3_0 c3_1 => ?_, fun c3 => ?_, fun c3 => ?_⟩
      · have m_3 : (-1) ≤ (g 12 l1) ∧ (g 12 l1) ≤ 9 := I 12 l1
        have m_4 : (-2147483648) ≤ (g 13 l1) ∧ (g 13 l1) ≤ 2147483647 := I 13 l1
        exact hQ _ (by intros; omega) (by intros; omega) (by intros; omega) (by intros; omega) (by intros; omega)
      · refine ⟨⟨by omega, by omega⟩, ?_⟩
        have m_5 : (-1) ≤ (g 12 l1) ∧ (g 12 l1) ≤ 9 := I 12 l1
        have m_6 : (-2147483648) ≤ (g 13 l1) ∧ (g 13 l1) ≤ 2147483647 := I 13 l1
        exact hQ _ (by intros; omega) (by intros; omega) (by intros; omega) (by intros; omega) (by intros; omega)
      · refine ⟨⟨by omega, by omega⟩, ?_⟩
        have m_7 : (-2147483648) ≤ (g 13 l1) ∧ (g 13 l1) ≤ 2147483647 := I 13 l1
        have m_8 : (-1) ≤ (g 12 l1) ∧ (g 12 l1) ≤ 9 := I 12 l1
        exact hQ _ (by intros; omega) (by intros; omega) (by intros; omega) (by intros; omega) (by intros; omega)
    · have m_9 : (-1) ≤ (g 12 l1) ∧ (g 12 l1) ≤ 9 := I 12 l1
      have m_10 : (-2147483648) ≤ (g 13 l1) ∧ (g 13 l1) ≤ 2147483647 := I 13 l1
      exact hQ _ (by intros; omega) (by intros; omega) (by intros; omega) (by intros; omega) (by intros; omega)
-- SpoutNewsModel.jar(II)I
def fr_M_jar (a : Nat) (i : Int) : Prop := (a = 214 ∧ i = 0)
set_option maxRecDepth 100000 in
set_option maxHeartbeats 400000 in
theorem k_M_jar {l1 : Int} {l2 : Int} {g : zi_M} {Q : Int → zi_M → Prop} (I : zk_I g) (p1 : (-2147483648) ≤ l1 ∧ l1 ≤ 2147483647) (p2 : (-2147483648) ≤ l2 ∧ l2 ≤ 2147483647) (hQ : ∀ (v : Int) (g' : zi_M), zk_I g' → zk_fr fr_M_jar g g' → ((-2147483649) ≤ v ∧ v ≤ 2147483647) → Q v g') : w_M_jar l1 l2 g Q := by
  unfold w_M_jar
  intro g1 e_1
  have I_2 : zk_I g1 := by rw [e_1]; exact zk_upd (L := (-2147483648)) (H := 2147483647) rfl rfl I ⟨by omega, by omega⟩
  have F_3 : zk_fr fr_M_jar g g1 := by rw [e_1]; exact zk_fu (zk_f0 _) ⟨rfl, rfl⟩
  refine k_M_isIn I_2 ⟨by omega, by omega⟩ ⟨by omega, by omega⟩ ⟨by omega, by omega⟩ (fun v2 b_4 b_5 b_6 => ?_)
  refine ⟨fun c10 => ?_, fun c10 => ?_⟩
  · refine ⟨⟨by omega, by omega⟩, ?_⟩
    refine ⟨fun c9 => ?_, fun c9 => ?_⟩
    · refine ⟨fun c7 => ?_, fun c7 => ?_⟩
      · exact hQ _ _ I_2 F_3 ⟨by omega, by omega⟩
      · refine ⟨⟨by omega, by omega⟩, ?_⟩
        have m_7 := zk_rng I_2 215 (258 + l1)
        have m_8 : g1 215 (258 + l1) = g 215 (258 + l1) := by rw [e_1]; exact zi_u_ne (by decide)
        have m_9 := zk_rng I 215 (258 + l1)
        exact hQ _ _ I_2 F_3 ⟨by omega, by omega⟩
    · refine ⟨⟨by omega, by omega⟩, ?_⟩
      have m_10 := zk_now252 I_2 (i := (252 + l1)) (by omega)
      have m_11 : g1 215 (252 + l1) = g 215 (252 + l1) := by rw [e_1]; exact zi_u_ne (by decide)
      have m_12 := zk_now252 I (i := (252 + l1)) (by omega)
      exact hQ _ _ I_2 F_3 ⟨by omega, by omega⟩
  · exact hQ _ _ I_2 F_3 ⟨by omega, by omega⟩
-- SpoutNews.weather(I)I
set_option maxRecDepth 100000 in
set_option maxHeartbeats 400000 in
theorem k_S_weather {l1 : Int} {g : zi_M} {Q : Int → zi_M → Prop} (I : zk_I g) (p1 : (-2147483648) ≤ l1 ∧ l1 ≤ 2147483647) (hQ : ∀ v : Int, ((-1) ≤ v ∧ v ≤ 9) → Q v g) : w_S_weather l1 g Q := by
  unfold w_S_weather
  refine k_Texts_rainOn I ⟨by omega, by omega⟩ (fun v1 b_1 => ?_)
  exact hQ _ ⟨by omega, by omega⟩
-- SpoutNewsModel.weather(I)I
def fr_M_weather (a : Nat) (i : Int) : Prop := (a = 214 ∧ i = 0)
set_option maxRecDepth 100000 in
set_option maxHeartbeats 400000 in
theorem k_M_weather {l1 : Int} {g : zi_M} {Q : Int → zi_M → Prop} (I : zk_I g) (p1 : (-2147483648) ≤ l1 ∧ l1 ≤ 2147483647) (hQ : ∀ (v : Int) (g' : zi_M), zk_I g' → zk_fr fr_M_weather g g' → ((-2147483648) ≤ v ∧ v ≤ 2147483647) → Q v g') : w_M_weather l1 g Q := by
  unfold w_M_weather
  intro g1 e_1
  have I_2 : zk_I g1 := by rw [e_1]; exact zk_upd (L := (-2147483648)) (H := 2147483647) rfl rfl I ⟨by omega, by omega⟩
  have F_3 : zk_fr fr_M_weather g g1 := by rw [e_1]; exact zk_fu (zk_f0 _) ⟨rfl, rfl⟩
  refine k_M_weatherOf I_2 ⟨by omega, by omega⟩ (fun v2 b_4 => ?_)
  exact hQ _ _ I_2 F_3 ⟨by omega, by omega⟩
-- SpoutNews.book(II)I
set_option maxRecDepth 100000 in
set_option maxHeartbeats 400000 in
theorem k_S_book {l1 : Int} {l2 : Int} {g : zi_M} {Q : Int → zi_M → Prop} (I : zk_I g) (p1 : (-2147483648) ≤ l1 ∧ l1 ≤ 2147483647) (p2 : (-2147483648) ≤ l2 ∧ l2 ≤ 2147483647) (hQ : ∀ v : Int, (l1 < 0 → v = (-1)) → (0 ≤ l1 → (g 2 19) ≤ l1 → v = (-1)) → (0 ≤ l1 → l1 < (g 2 19) → l1 < 150 → (l2 = 0) → v = g 15 l1) → (0 ≤ l1 → l1 < (g 2 19) → l1 < 150 → (l2 = 1) → v = g 16 l1) → (0 ≤ l1 → l1 < (g 2 19) → l1 < 150 → (l2 = 2) → v = g 17 l1) → (0 ≤ l1 → l1 < (g 2 19) → l1 < 150 → (l2 = 3) → v = g 18 l1) → (0 ≤ l1 → l1 < (g 2 19) → l1 < 150 → ¬ l2 = 0 → ¬ l2 = 1 → ¬ l2 = 2 → ¬ l2 = 3 → v = (-1)) → (0 ≤ l1 → l1 < (g 2 19) → 150 ≤ l1 → v = (-1)) → Q v g) : w_S_book l1 l2 g Q := by
  unfold w_S_book
  refine ⟨⟨by omega, by omega⟩, ?_⟩
  refine ⟨fun c11 => ?_, fun c11 => ?_⟩
  · have m_1 : 0 ≤ (g 2 19) ∧ (g 2 19) ≤ 150 := I 2 19
    have m_2 : (-2147483648) ≤ (g 15 l1) ∧ (g 15 l1) ≤ 2147483647 := I 15 l1
    have m_3 : (-2147483648) ≤ (g 16 l1) ∧ (g 16 l1) ≤ 2147483647 := I 16 l1
    have m_4 : (-2147483648) ≤ (g 17 l1) ∧ (g 17 l1) ≤ 2147483647 := I 17 l1
    have m_5 : (-2147483648) ≤ (g 18 l1) ∧ (g 18 l1) ≤ 2147483647 := I 18 l1
    exact hQ _ (by intros; omega) (by intros; omega) (by intros; omega) (by intros; omega) (by intros; omega) (by intros; omega) (by intros; omega) (by intros; omega)
  · have m_6 : 0 ≤ (g 2 19) ∧ (g 2 19) ≤ 150 := I 2 19
    refine ⟨⟨by omega, by omega⟩, ?_⟩
    refine ⟨fun c10 => ?_, fun c10 => ?_⟩
    · have m_7 : (-2147483648) ≤ (g 15 l1) ∧ (g 15 l1) ≤ 2147483647 := I 15 l1
      have m_8 : (-2147483648) ≤ (g 16 l1) ∧ (g 16 l1) ≤ 2147483647 := I 16 l1
      have m_9 : (-2147483648) ≤ (g 17 l1) ∧ (g 17 l1) ≤ 2147483647 := I 17 l1
      have m_10 : (-2147483648) ≤ (g 18 l1) ∧ (g 18 l1) ≤ 2147483647 := I 18 l1
      exact hQ _ (by intros; omega) (by intros; omega) (by intros; omega) (by intros; omega) (by intros; omega) (by intros; omega) (by intros; omega) (by intros; omega)
    · refine ⟨fun c9 => ?_, fun c9 => ?_⟩
      · refine ⟨⟨by omega, by omega⟩, ?_⟩
        refine ⟨fun c4 => ?_, fun c4 => ?_, fun c4 => ?_, fun c4 => ?_, fun c4 => ?_⟩
        · have m_11 : (-2147483648) ≤ (g 15 l1) ∧ (g 15 l1) ≤ 2147483647 := I 15 l1
          have m_12 : (-2147483648) ≤ (g 16 l1) ∧ (g 16 l1) ≤ 2147483647 := I 16 l1
          have m_13 : (-2147483648) ≤ (g 17 l1) ∧ (g 17 l1) ≤ 2147483647 := I 17 l1
          have m_14 : (-2147483648) ≤ (g 18 l1) ∧ (g 18 l1) ≤ 2147483647 := I 18 l1
          exact hQ _ (by intros; omega) (by intros; omega) (by intros; omega) (by intros; omega) (by intros; omega) (by intros; omega) (by intros; omega) (by intros; omega)
        · refine ⟨⟨by omega, by omega⟩, ?_⟩
          have m_15 : (-2147483648) ≤ (g 15 l1) ∧ (g 15 l1) ≤ 2147483647 := I 15 l1
          have m_16 : (-2147483648) ≤ (g 16 l1) ∧ (g 16 l1) ≤ 2147483647 := I 16 l1
          have m_17 : (-2147483648) ≤ (g 17 l1) ∧ (g 17 l1) ≤ 2147483647 := I 17 l1
          have m_18 : (-2147483648) ≤ (g 18 l1) ∧ (g 18 l1) ≤ 2147483647 := I 18 l1
          exact hQ _ (by intros; omega) (by intros; omega) (by intros; omega) (by intros; omega) (by intros; omega) (by intros; omega) (by intros; omega) (by intros; omega)
        · refine ⟨⟨by omega, by omega⟩, ?_⟩
          have m_19 : (-2147483648) ≤ (g 16 l1) ∧ (g 16 l1) ≤ 2147483647 := I 16 l1
          have m_20 : (-2147483648) ≤ (g 15 l1) ∧ (g 15 l1) ≤ 2147483647 := I 15 l1
          have m_21 : (-2147483648) ≤ (g 17 l1) ∧ (g 17 l1) ≤ 2147483647 := I 17 l1
          have m_22 : (-2147483648) ≤ (g 18 l1) ∧ (g 18 l1) ≤ 2147483647 := I 18 l1
          exact hQ _ (by intros; omega) (by intros; omega) (by intros; omega) (by intros; omega) (by intros; omega) (by intros; omega) (by intros; omega) (by intros; omega)
        · refine ⟨⟨by omega, by omega⟩, ?_⟩
          have m_23 : (-2147483648) ≤ (g 17 l1) ∧ (g 17 l1) ≤ 2147483647 := I 17 l1
          have m_24 : (-2147483648) ≤ (g 15 l1) ∧ (g 15 l1) ≤ 2147483647 := I 15 l1
          have m_25 : (-2147483648) ≤ (g 16 l1) ∧ (g 16 l1) ≤ 2147483647 := I 16 l1
          have m_26 : (-2147483648) ≤ (g 18 l1) ∧ (g 18 l1) ≤ 2147483647 := I 18 l1
          exact hQ _ (by intros; omega) (by intros; omega) (by intros; omega) (by intros; omega) (by intros; omega) (by intros; omega) (by intros; omega) (by intros; omega)
        · refine ⟨⟨by omega, by omega⟩, ?_⟩
          have m_27 : (-2147483648) ≤ (g 18 l1) ∧ (g 18 l1) ≤ 2147483647 := I 18 l1
          have m_28 : (-2147483648) ≤ (g 15 l1) ∧ (g 15 l1) ≤ 2147483647 := I 15 l1
          have m_29 : (-2147483648) ≤ (g 16 l1) ∧ (g 16 l1) ≤ 2147483647 := I 16 l1
          have m_30 : (-2147483648) ≤ (g 17 l1) ∧ (g 17 l1) ≤ 2147483647 := I 17 l1
          exact hQ _ (by intros; omega) (by intros; omega) (by intros; omega) (by intros; omega) (by intros; omega) (by intros; omega) (by intros; omega) (by intros; omega)
      · have m_31 : (-2147483648) ≤ (g 15 l1) ∧ (g 15 l1) ≤ 2147483647 := I 15 l1
        have m_32 : (-2147483648) ≤ (g 16 l1) ∧ (g 16 l1) ≤ 2147483647 := I 16 l1
        have m_33 : (-2147483648) ≤ (g 17 l1) ∧ (g 17 l1) ≤ 2147483647 := I 17 l1
        have m_34 : (-2147483648) ≤ (g 18 l1) ∧ (g 18 l1) ≤ 2147483647 := I 18 l1
        exact hQ _ (by intros; omega) (by intros; omega) (by intros; omega) (by intros; omega) (by intros; omega) (by intros; omega) (by intros; omega) (by intros; omega)
-- SpoutNewsModel.book(II)I
def fr_M_book (a : Nat) (i : Int) : Prop := (a = 214 ∧ i = 0)
set_option maxRecDepth 100000 in
set_option maxHeartbeats 400000 in
theorem k_M_book {l1 : Int} {l2 : Int} {g : zi_M} {Q : Int → zi_M → Prop} (I : zk_I g) (p1 : (-2147483648) ≤ l1 ∧ l1 ≤ 2147483647) (p2 : (-2147483648) ≤ l2 ∧ l2 ≤ 2147483647) (hQ : ∀ (v : Int) (g' : zi_M), zk_I g' → zk_fr fr_M_book g g' → ((-2147483648) ≤ v ∧ v ≤ 2147483647) → Q v g') : w_M_book l1 l2 g Q := by
  unfold w_M_book
  intro g1 e_1
  have I_2 : zk_I g1 := by rw [e_1]; exact zk_upd (L := (-2147483648)) (H := 2147483647) rfl rfl I ⟨by omega, by omega⟩
  have F_3 : zk_fr fr_M_book g g1 := by rw [e_1]; exact zk_fu (zk_f0 _) ⟨rfl, rfl⟩
  have m_4 := zk_now2 I_2 (i := 2) (by omega)
  have m_5 : g1 215 2 = g 215 2 := by rw [e_1]; exact zi_u_ne (by decide)
  have m_6 := zk_now2 I (i := 2) (by omega)
  refine k_M_isIn I_2 ⟨by omega, by omega⟩ ⟨by omega, by omega⟩ ⟨by omega, by omega⟩ (fun v2 b_7 b_8 b_9 => ?_)
  refine ⟨fun c10 => ?_, fun c10 => ?_⟩
  · exact hQ _ _ I_2 F_3 ⟨by omega, by omega⟩
  · refine k_M_isIn I_2 ⟨by omega, by omega⟩ ⟨by omega, by omega⟩ ⟨by omega, by omega⟩ (fun v5 b_10 b_11 b_12 => ?_)
    refine ⟨fun c9 => ?_, fun c9 => ?_⟩
    · exact hQ _ _ I_2 F_3 ⟨by omega, by omega⟩
    · refine ⟨⟨by omega, by omega⟩, ?_⟩
      have m_13 : (-2147483648) ≤ (g1 221 ((4 * l1) + l2)) ∧ (g1 221 ((4 * l1) + l2)) ≤ 2147483647 := I_2 221 ((4 * l1) + l2)
      have m_14 : g1 221 ((4 * l1) + l2) = g 221 ((4 * l1) + l2) := by rw [e_1]; exact zi_u_ne (by decide)
      have m_15 : (-2147483648) ≤ (g 221 ((4 * l1) + l2)) ∧ (g 221 ((4 * l1) + l2)) ≤ 2147483647 := I 221 ((4 * l1) + l2)
      exact hQ _ _ I_2 F_3 ⟨by omega, by omega⟩
-- SpoutNews$World.heardInAll()I
set_option maxRecDepth 100000 in
set_option maxHeartbeats 400000 in
theorem k_World_heardInAll_l4 {g : zi_M} (I : zk_I g) {K27 : Int → zi_M → Prop} {Q : Int → zi_M → Prop} (hK27 : ∀ (k1 : Int), K27 k1 g) (hQ : ∀ v : Int, Q v g) : ∀ (n : Nat) {l1 : Int} {l2 : Int}, (0 ≤ l2 ∧ l2 ≤ 10) → 10 - l2 < (n : Int) → w_World_heardInAll_l4 K27 Q n l1 l2 g
  | 0, l1, l2, b0, hm => by exfalso; omega
  | n + 1, l1, l2, b0, hm => by
    unfold w_World_heardInAll_l4
    have m_1 : 0 ≤ (g 165 8) ∧ (g 165 8) ≤ 10 := I 165 8
    refine ⟨⟨by omega, by omega⟩, ⟨by omega, by omega⟩, ?_⟩
    refine ⟨fun c4 => ?_, fun c4 => ?_⟩
    · exact hK27 _
    · refine ⟨⟨by omega, by omega⟩, ?_⟩
      have m_2 : 0 ≤ (g 171 l2) ∧ (g 171 l2) ≤ 20 := I 171 l2
      have m_3 := zi_r_w (l1 + (g 171 l2))
      exact k_World_heardInAll_l4 I hK27 hQ n ⟨by omega, by omega⟩ (by omega)
set_option maxRecDepth 100000 in
set_option maxHeartbeats 400000 in
theorem k_World_heardInAll {g : zi_M} {Q : Int → zi_M → Prop} (I : zk_I g) (hQ : ∀ v : Int, Q v g) : w_World_heardInAll g Q := by
  unfold w_World_heardInAll
  refine ⟨((10 - 0 : Int).toNat + 1), k_World_heardInAll_l4 I (fun k5 => ?_) hQ ((10 - 0 : Int).toNat + 1) ⟨by omega, by omega⟩ (by omega)⟩
  exact hQ _
-- SpoutNews.goes(II)I
def fr_S_goes (a : Nat) (i : Int) : Prop := a = 15 ∨ a = 16 ∨ a = 166 ∨ a = 167 ∨ a = 168 ∨ a = 169 ∨ a = 17 ∨ a = 170 ∨ a = 171 ∨ a = 172 ∨ a = 173 ∨ a = 174 ∨ a = 175 ∨ a = 176 ∨ a = 178 ∨ a = 179 ∨ a = 18 ∨ a = 27 ∨ a = 28 ∨ (a = 165 ∧ i = 11) ∨ (a = 165 ∧ i = 14) ∨ (a = 165 ∧ i = 15) ∨ (a = 165 ∧ i = 16) ∨ (a = 165 ∧ i = 17) ∨ (a = 165 ∧ i = 18) ∨ (a = 165 ∧ i = 19) ∨ (a = 165 ∧ i = 8) ∨ (a = 177 ∧ i = 2)
set_option maxRecDepth 100000 in
set_option maxHeartbeats 400000 in
theorem k_S_goes {l1 : Int} {l2 : Int} {g : zi_M} {Q : Int → zi_M → Prop} (I : zk_I g) (p1 : (-2147483648) ≤ l1 ∧ l1 ≤ 2147483647) (p2 : (-2147483648) ≤ l2 ∧ l2 ≤ 2147483647) (hQ : ∀ (v : Int) (g' : zi_M), zk_I g' → zk_fr fr_S_goes g g' → Q v g') : w_S_goes l1 l2 g Q := by
  sorry
-- SpoutNewsModel.thinks()V
def fr_M_thinks (a : Nat) (i : Int) : Prop := a = 217 ∨ (a = 214 ∧ i = 5)
set_option maxRecDepth 100000 in
set_option maxHeartbeats 400000 in
theorem k_M_thinks {g : zi_M} {Q : Int → zi_M → Prop} (I : zk_I g) (hQ : ∀ g' : zi_M, zk_I g' → zk_fr fr_M_thinks g g' → Q 0 g') : w_M_thinks g Q := by
  sorry
-- SpoutNewsModel.endsThought()V
def fr_M_endsThought (a : Nat) (i : Int) : Prop := a = 215 ∨ (a = 214 ∧ i = 5)
set_option maxRecDepth 100000 in
set_option maxHeartbeats 400000 in
theorem k_M_endsThought {g : zi_M} {Q : Int → zi_M → Prop} (I : zk_I g) (hQ : ∀ g' : zi_M, zk_I g' → zk_fr fr_M_endsThought g g' → Q 0 g') : w_M_endsThought g Q := by
  sorry
-- SpoutNewsModel.goes(II)I
def fr_M_goes (a : Nat) (i : Int) : Prop := a = 215 ∨ a = 217 ∨ a = 221 ∨ a = 235 ∨ a = 236 ∨ a = 237 ∨ a = 238 ∨ (a = 214 ∧ i = 0) ∨ (a = 214 ∧ i = 43) ∨ (a = 214 ∧ i = 5)
set_option maxRecDepth 100000 in
set_option maxHeartbeats 400000 in
theorem k_M_goes {l1 : Int} {l2 : Int} {g : zi_M} {Q : Int → zi_M → Prop} (I : zk_I g) (p1 : (-2147483648) ≤ l1 ∧ l1 ≤ 2147483647) (p2 : (-2147483648) ≤ l2 ∧ l2 ≤ 2147483647) (hQ : ∀ (v : Int) (g' : zi_M), zk_I g' → zk_fr fr_M_goes g g' → Q v g') : w_M_goes l1 l2 g Q := by
  sorry
-- SpoutNews.isWord(I)Z
set_option maxRecDepth 100000 in
set_option maxHeartbeats 400000 in
theorem k_S_isWord {l0 : Int} {g : zi_M} {Q : Int → zi_M → Prop} (I : zk_I g) (p0 : (-2147483648) ≤ l0 ∧ l0 ≤ 2147483647) (hQ : ∀ v : Int, (l0 < 0 → v = 0) → (0 ≤ l0 → 16 ≤ l0 → v = 0) → (0 ≤ l0 → l0 < 16 → v = 1) → Q v g) : w_S_isWord l0 g Q := by
  unfold w_S_isWord
  refine ⟨⟨by omega, by omega⟩, ?_⟩
  refine ⟨fun c3 => ?_, fun c3 => ?_⟩
  · exact hQ _ (by intros; omega) (by intros; omega) (by intros; omega)
  · refine ⟨fun c2 => ?_, fun c2 => ?_⟩
    · exact hQ _ (by intros; omega) (by intros; omega) (by intros; omega)
    · exact hQ _ (by intros; omega) (by intros; omega) (by intros; omega)
-- SpoutNews$Thought.reach(LSpoutNews$Texts;I)I
set_option maxRecDepth 100000 in
set_option maxHeartbeats 400000 in
theorem k_Thought_reach {l2 : Int} {g : zi_M} {Q : Int → zi_M → Prop} (I : zk_I g) (p2 : (-2147483648) ≤ l2 ∧ l2 ≤ 2147483647) (hQ : ∀ v : Int, ((-2147483648) ≤ v ∧ v ≤ 2147483647) → Q v g) : w_Thought_reach l2 g Q := by
  sorry
-- SpoutNews$Thought.tellers(LSpoutNews$World;LSpoutNews$Texts;II)I
set_option maxRecDepth 100000 in
set_option maxHeartbeats 400000 in
theorem k_Thought_tellers_l6 {g : zi_M} (I : zk_I g) {l3 : Int} {l4 : Int} {K66 : Int → zi_M → Prop} {Q : Int → zi_M → Prop} (q3 : (-2147483648) ≤ l3 ∧ l3 ≤ 2147483647) (q4 : (-2147483648) ≤ l4 ∧ l4 ≤ 2147483647) (hK66 : ∀ (k5 : Int), (0 ≤ k5 ∧ k5 ≤ 255) → K66 k5 g) (hQ : ∀ v : Int, (0 ≤ v ∧ v ≤ 255) → Q v g) : ∀ (n : Nat) {l5 : Int} {l6 : Int}, (0 ≤ l5 ∧ l5 ≤ 255) → (0 ≤ l6 ∧ l6 ≤ 8) → 8 - l6 < (n : Int) → w_Thought_tellers_l6 l3 l4 K66 Q n l5 l6 g
  | 0, l5, l6, b0, b1, hm => by exfalso; omega
  | n + 1, l5, l6, b0, b1, hm => by
    unfold w_Thought_tellers_l6
    have m_1 : 0 ≤ (g 2 11) ∧ (g 2 11) ≤ 8 := I 2 11
    refine ⟨⟨by omega, by omega⟩, ⟨by omega, by omega⟩, ?_⟩
    refine ⟨fun c9 => ?_, fun c9 => ?_⟩
    · exact hK66 _ ⟨by omega, by omega⟩
    · refine ⟨⟨by omega, by omega⟩, ?_⟩
      have m_2 : (-2147483648) ≤ (g 10 l6) ∧ (g 10 l6) ≤ 2147483647 := I 10 l6
      have m_3 := zi_shr_f (g 10 l6) l3
      have m_4 := zi_and_f (zi_shr (g 10 l6) l3) 1
      refine ⟨fun c8 => ?_, fun c8 => ?_⟩
      · exact k_Thought_tellers_l6 I q3 q4 hK66 hQ n ⟨by omega, by omega⟩ ⟨by omega, by omega⟩ (by omega)
      · have m_5 : (-1) ≤ (g 11 l6) ∧ (g 11 l6) ≤ 9 := I 11 l6
        refine k_Thought_reach I ⟨by omega, by omega⟩ (fun v4 b_6 => ?_)
        have m_7 := zi_shr_f v4 l4
        have m_8 := zi_and_f (zi_shr v4 l4) 1
        refine ⟨fun c7 => ?_, fun c7 => ?_⟩
        · exact k_Thought_tellers_l6 I q3 q4 hK66 hQ n ⟨by omega, by omega⟩ ⟨by omega, by omega⟩ (by omega)
        · have m_9 := zi_shl_f l6
          have m_10 := zi_or_f l5 (zi_shl 1 l6)
          exact k_Thought_tellers_l6 I q3 q4 hK66 hQ n ⟨by omega, by omega⟩ ⟨by omega, by omega⟩ (by omega)
set_option maxRecDepth 100000 in
set_option maxHeartbeats 400000 in
theorem k_Thought_tellers {l3 : Int} {l4 : Int} {g : zi_M} {Q : Int → zi_M → Prop} (I : zk_I g) (p3 : (-2147483648) ≤ l3 ∧ l3 ≤ 2147483647) (p4 : (-2147483648) ≤ l4 ∧ l4 ≤ 2147483647) (hQ : ∀ v : Int, (0 ≤ v ∧ v ≤ 255) → Q v g) : w_Thought_tellers l3 l4 g Q := by
  unfold w_Thought_tellers
  refine ⟨((8 - 0 : Int).toNat + 1), k_Thought_tellers_l6 (l3 := l3) (l4 := l4) I ⟨by omega, by omega⟩ ⟨by omega, by omega⟩ (fun k10 b_11 => ?_) hQ ((8 - 0 : Int).toNat + 1) ⟨by omega, by omega⟩ ⟨by omega, by omega⟩ (by omega)⟩
  exact hQ _ ⟨by omega, by omega⟩
-- SpoutNews.told(II)I
set_option maxRecDepth 100000 in
set_option maxHeartbeats 400000 in
theorem k_S_told {l1 : Int} {l2 : Int} {g : zi_M} {Q : Int → zi_M → Prop} (I : zk_I g) (p1 : (-2147483648) ≤ l1 ∧ l1 ≤ 2147483647) (p2 : (-2147483648) ≤ l2 ∧ l2 ≤ 2147483647) (hQ : ∀ v : Int, ((-1) ≤ v ∧ v ≤ 255) → Q v g) : w_S_told l1 l2 g Q := by
  unfold w_S_told
  refine k_S_isWord I ⟨by omega, by omega⟩ (fun v1 b_1 b_2 b_3 => ?_)
  refine ⟨fun c11 => ?_, fun c11 => ?_⟩
  · exact hQ _ ⟨by omega, by omega⟩
  · have m_7 : 0 ≤ (g 2 8) ∧ (g 2 8) ≤ 10 := I 2 8
    refine k_World_isSpout rfl I ⟨by omega, by omega⟩ (fun v4 b_4 b_5 b_6 => ?_)
    refine ⟨fun c10 => ?_, fun c10 => ?_⟩
    · refine k_Thought_tellers I ⟨by omega, by omega⟩ ⟨by omega, by omega⟩ (fun v7 b_8 => ?_)
      exact hQ _ ⟨by omega, by omega⟩
    · exact hQ _ ⟨by omega, by omega⟩
-- SpoutNewsModel.passedFrom(I)I
set_option maxRecDepth 100000 in
set_option maxHeartbeats 400000 in
theorem k_M_passedFrom {l1 : Int} {g : zi_M} {Q : Int → zi_M → Prop} (I : zk_I g) (p1 : 0 ≤ l1 ∧ l1 ≤ 9) (hQ : ∀ v : Int, (0 ≤ v ∧ v ≤ 1023) → Q v g) : w_M_passedFrom l1 g Q := by
  sorry
-- SpoutNewsModel.told(II)I
def fr_M_told (a : Nat) (i : Int) : Prop := (a = 214 ∧ i = 0)
set_option maxRecDepth 100000 in
set_option maxHeartbeats 400000 in
theorem k_M_told_l31 {l1 : Int} {l2 : Int} {K111 : Int → zi_M → Prop} {Q : Int → zi_M → Prop} {g0 : zi_M} (q1 : (-2147483648) ≤ l1 ∧ l1 ≤ 2147483647) (q2 : (-2147483648) ≤ l2 ∧ l2 ≤ 2147483647) (hK111 : ∀ (k3 : Int) (g : zi_M), zk_I g → zk_fr fr_M_told g0 g → (0 ≤ k3 ∧ k3 ≤ 255) → K111 k3 g) (hQ : ∀ (v : Int) (g' : zi_M), zk_I g' → zk_fr fr_M_told g0 g' → ((-1) ≤ v ∧ v ≤ 255) → Q v g') : ∀ (n : Nat) {l3 : Int} {l4 : Int} {g : zi_M}, zk_I g → zk_fr fr_M_told g0 g → (0 ≤ l3 ∧ l3 ≤ 255) → (0 ≤ l4 ∧ l4 ≤ 8) → 8 - l4 < (n : Int) → w_M_told_l31 l1 l2 K111 Q n l3 l4 g
  | 0, l3, l4, g, I, F, b0, b1, hm => by exfalso; omega
  | n + 1, l3, l4, g, I, F, b0, b1, hm => by
    unfold w_M_told_l31
    have m_13 : 0 ≤ (g 214 7) ∧ (g 214 7) ≤ 8 := I 214 7
    refine ⟨⟨by omega, by omega⟩, ⟨by omega, by omega⟩, ?_⟩
    refine ⟨fun c25 => ?_, fun c25 => ?_⟩
    · exact hK111 _ _ I F ⟨by omega, by omega⟩
    · refine ⟨⟨by omega, by omega⟩, ?_⟩
      have m_14 := zk_rng I 215 (236 + l4)
      have m_17 := zi_shr_f ((g 215 (236 + l4))) (l1)
      have m_18 := zi_and_f (zi_shr (g 215 (236 + l4)) l1) 1
      refine k_M_has I ⟨by omega, by omega⟩ ⟨by omega, by omega⟩ (fun v11 b_15 b_16 => ?_)
      refine ⟨fun c24 => ?_, fun c24 => ?_⟩
      · exact k_M_told_l31 q1 q2 hK111 hQ n I F ⟨by omega, by omega⟩ ⟨by omega, by omega⟩ (by omega)
      · refine ⟨⟨by omega, by omega⟩, ?_⟩
        have m_19 := zk_now244 I (i := (244 + l4)) (by omega)
        refine ⟨⟨by omega, by omega⟩, ?_⟩
        refine ⟨fun c23 => ?_, fun c23 => ?_⟩
        · exact k_M_told_l31 q1 q2 hK111 hQ n I F ⟨by omega, by omega⟩ ⟨by omega, by omega⟩ (by omega)
        · refine k_M_passedFrom I ⟨by omega, by omega⟩ (fun v16 b_20 => ?_)
          have m_23 := zi_shr_f (v16) (l2)
          have m_24 := zi_and_f (zi_shr v16 l2) 1
          refine k_M_has I ⟨by omega, by omega⟩ ⟨by omega, by omega⟩ (fun v19 b_21 b_22 => ?_)
          refine ⟨fun c22 => ?_, fun c22 => ?_⟩
          · exact k_M_told_l31 q1 q2 hK111 hQ n I F ⟨by omega, by omega⟩ ⟨by omega, by omega⟩ (by omega)
          · have m_25 := zi_shl_f l4
            have m_26 := zi_or_f l3 (zi_shl 1 l4)
            exact k_M_told_l31 q1 q2 hK111 hQ n I F ⟨by omega, by omega⟩ ⟨by omega, by omega⟩ (by omega)
set_option maxRecDepth 100000 in
set_option maxHeartbeats 400000 in
theorem k_M_told {l1 : Int} {l2 : Int} {g : zi_M} {Q : Int → zi_M → Prop} (I : zk_I g) (p1 : (-2147483648) ≤ l1 ∧ l1 ≤ 2147483647) (p2 : (-2147483648) ≤ l2 ∧ l2 ≤ 2147483647) (hQ : ∀ (v : Int) (g' : zi_M), zk_I g' → zk_fr fr_M_told g g' → ((-1) ≤ v ∧ v ≤ 255) → Q v g') : w_M_told l1 l2 g Q := by
  unfold w_M_told
  intro g1 e_1
  have I_2 : zk_I g1 := by rw [e_1]; exact zk_upd (L := (-2147483648)) (H := 2147483647) rfl rfl I ⟨by omega, by omega⟩
  have F_3 : zk_fr fr_M_told g g1 := by rw [e_1]; exact zk_fu (zk_f0 _) ⟨rfl, rfl⟩
  refine k_M_isIn I_2 ⟨by omega, by omega⟩ ⟨by omega, by omega⟩ ⟨by omega, by omega⟩ (fun v2 b_4 b_5 b_6 => ?_)
  refine ⟨fun c30 => ?_, fun c30 => ?_⟩
  · exact hQ _ _ I_2 F_3 ⟨by omega, by omega⟩
  · have m_10 : 0 ≤ (g1 214 6) ∧ (g1 214 6) ≤ 10 := I_2 214 6
    have m_11 : g1 214 6 = g 214 6 := by rw [e_1]; exact zi_u_ni (by decide)
    have m_12 : 0 ≤ (g 214 6) ∧ (g 214 6) ≤ 10 := I 214 6
    refine k_M_isSpout I_2 ⟨by omega, by omega⟩ (fun v5 b_7 b_8 b_9 => ?_)
    refine ⟨fun c29 => ?_, fun c29 => ?_⟩
    · refine ⟨((8 - 0 : Int).toNat + 1), k_M_told_l31 (l1 := l1) (l2 := l2) ⟨by omega, by omega⟩ ⟨by omega, by omega⟩ (fun k26 g27 I_27 F_28 b_29 => ?_) hQ ((8 - 0 : Int).toNat + 1) I_2 F_3 ⟨by omega, by omega⟩ ⟨by omega, by omega⟩ (by omega)⟩
      exact hQ _ _ I_27 F_28 ⟨by omega, by omega⟩
    · exact hQ _ _ I_2 F_3 ⟨by omega, by omega⟩
-- SpoutNews$Thought.lastOnes(LSpoutNews$Texts;I)I
set_option maxRecDepth 100000 in
set_option maxHeartbeats 400000 in
theorem k_Thought_lastOnes_l5 {g : zi_M} (I : zk_I g) {K33 : Int → zi_M → Prop} {Q : Int → zi_M → Prop} (hK33 : ∀ (k3 : Int), ((-2147483648) ≤ k3 ∧ k3 ≤ 2147483647) → K33 k3 g) (hQ : ∀ v : Int, ((-2147483648) ≤ v ∧ v ≤ 2147483647) → Q v g) : ∀ (n : Nat) {l3 : Int} {l4 : Int}, ((-2147483648) ≤ l3 ∧ l3 ≤ 2147483647) → (0 ≤ l4 ∧ l4 ≤ 10) → 10 - l4 < (n : Int) → w_Thought_lastOnes_l5 K33 Q n l3 l4 g
  | 0, l3, l4, b0, b1, hm => by exfalso; omega
  | n + 1, l3, l4, b0, b1, hm => by
    unfold w_Thought_lastOnes_l5
    refine ⟨⟨by omega, by omega⟩, ?_⟩
    refine ⟨fun c10 => ?_, fun c10 => ?_⟩
    · exact hK33 _ ⟨by omega, by omega⟩
    · have m_4 : (-1) ≤ (g 29 (l3)) ∧ (g 29 (l3)) ≤ 9 := I 29 (l3)
      refine k_Texts_gutterOf I ⟨by omega, by omega⟩ (fun v2 b_1 b_2 b_3 => ?_)
      refine ⟨⟨by omega, by omega⟩, ?_⟩
      refine ⟨fun c9 => ?_, fun c9 => ?_⟩
      · exact hK33 _ ⟨by omega, by omega⟩
      · refine k_Texts_gutterOf I ⟨by omega, by omega⟩ (fun v6 b_5 b_6 b_7 => ?_)
        exact k_Thought_lastOnes_l5 I hK33 hQ n ⟨by omega, by omega⟩ ⟨by omega, by omega⟩ (by omega)
set_option maxRecDepth 100000 in
set_option maxHeartbeats 400000 in
theorem k_Thought_lastOnes {l2 : Int} {g : zi_M} {Q : Int → zi_M → Prop} (I : zk_I g) (p2 : (-2147483648) ≤ l2 ∧ l2 ≤ 2147483647) (hQ : ∀ v : Int, ((-2147483648) ≤ v ∧ v ≤ 2147483647) → Q v g) : w_Thought_lastOnes l2 g Q := by
  unfold w_Thought_lastOnes
  refine ⟨((10 - 0 : Int).toNat + 1), k_Thought_lastOnes_l5 I (fun k11 b_8 => ?_) hQ ((10 - 0 : Int).toNat + 1) ⟨by omega, by omega⟩ ⟨by omega, by omega⟩ (by omega)⟩
  refine k_Thought_reach I ⟨by omega, by omega⟩ (fun v13 b_9 => ?_)
  exact hQ _ ⟨by omega, by omega⟩
-- SpoutNews$Thought.endOf(LSpoutNews$Texts;I)I
set_option maxRecDepth 100000 in
set_option maxHeartbeats 400000 in
theorem k_Thought_endOf_l13 {g : zi_M} (I : zk_I g) {l3 : Int} {K38 : Int → zi_M → Prop} {Q : Int → zi_M → Prop} (q3 : (-2147483648) ≤ l3 ∧ l3 ≤ 2147483647) (hK38 : ∀ (k4 : Int), (0 ≤ k4) → K38 k4 g) (hQ : ∀ v : Int, (0 ≤ v) → Q v g) : ∀ (n : Nat) {l4 : Int} {l5 : Int}, (0 ≤ l4) → (0 ≤ l5 ∧ l5 ≤ 10) → 10 - l5 < (n : Int) → w_Thought_endOf_l13 l3 K38 Q n l4 l5 g
  | 0, l4, l5, b0, b1, hm => by exfalso; omega
  | n + 1, l4, l5, b0, b1, hm => by
    unfold w_Thought_endOf_l13
    refine ⟨⟨by omega, by omega⟩, ?_⟩
    refine ⟨fun c6 => ?_, fun c6 => ?_⟩
    · exact hK38 _ (by omega)
    · have m_2 := zi_shr_f l3 l4
      have m_3 := zi_and_f (zi_shr l3 l4) 1
      refine ⟨fun c5 => ?_, fun c5 => ?_⟩
      · exact hK38 _ (by omega)
      · exact k_Thought_endOf_l13 I q3 hK38 hQ n (by omega) ⟨by omega, by omega⟩ (by omega)
set_option maxRecDepth 100000 in
set_option maxHeartbeats 400000 in
theorem k_Thought_endOf {l2 : Int} {g : zi_M} {Q : Int → zi_M → Prop} (I : zk_I g) (p2 : (-2147483648) ≤ l2 ∧ l2 ≤ 2147483647) (hQ : ∀ v : Int, (0 ≤ v) → Q v g) : w_Thought_endOf l2 g Q := by
  unfold w_Thought_endOf
  refine k_Thought_lastOnes I ⟨by omega, by omega⟩ (fun v1 b_1 => ?_)
  refine ⟨((10 - 0 : Int).toNat + 1), k_Thought_endOf_l13 (l3 := v1) I ⟨by omega, by omega⟩ (fun k7 b_4 => ?_) hQ ((10 - 0 : Int).toNat + 1) (by omega) ⟨by omega, by omega⟩ (by omega)⟩
  exact hQ _ (by omega)
-- SpoutNews$Thought.guttersToEnd(LSpoutNews$Texts;I)I
set_option maxRecDepth 100000 in
set_option maxHeartbeats 400000 in
theorem k_Thought_guttersToEnd_l16 {g : zi_M} (I : zk_I g) {l3 : Int} {K55 : Int → zi_M → Prop} {Q : Int → zi_M → Prop} (q3 : (-2147483648) ≤ l3 ∧ l3 ≤ 2147483647) (hK55 : ∀ (k5 : Int), (0 ≤ k5) → K55 k5 g) (hQ : ∀ v : Int, (0 ≤ v) → Q v g) : ∀ (n : Nat) {l4 : Int} {l5 : Int} {l6 : Int}, ((-2147483648) ≤ l4 ∧ l4 ≤ 2147483647) → (0 ≤ l5) → (0 ≤ l6 ∧ l6 ≤ 10) → 10 - l6 < (n : Int) → w_Thought_guttersToEnd_l16 l3 K55 Q n l4 l5 l6 g
  | 0, l4, l5, l6, b0, b1, b2, hm => by exfalso; omega
  | n + 1, l4, l5, l6, b0, b1, b2, hm => by
    unfold w_Thought_guttersToEnd_l16
    refine ⟨⟨by omega, by omega⟩, ?_⟩
    refine ⟨fun c11 => ?_, fun c11 => ?_⟩
    · exact hK55 _ (by omega)
    · refine ⟨⟨by omega, by omega⟩, ?_⟩
      refine ⟨fun c10 => ?_, fun c10 => ?_⟩
      · exact hK55 _ (by omega)
      · have m_2 := zi_shr_f l3 l4
        have m_3 := zi_and_f (zi_shr l3 l4) 1
        refine ⟨fun c9 => ?_, fun c9 => ?_⟩
        · exact hK55 _ (by omega)
        · have m_7 : (-1) ≤ (g 29 (l4)) ∧ (g 29 (l4)) ≤ 9 := I 29 (l4)
          refine k_Texts_gutterOf I ⟨by omega, by omega⟩ (fun v6 b_4 b_5 b_6 => ?_)
          exact k_Thought_guttersToEnd_l16 I q3 hK55 hQ n ⟨by omega, by omega⟩ (by omega) ⟨by omega, by omega⟩ (by omega)
set_option maxRecDepth 100000 in
set_option maxHeartbeats 400000 in
theorem k_Thought_guttersToEnd {l2 : Int} {g : zi_M} {Q : Int → zi_M → Prop} (I : zk_I g) (p2 : (-2147483648) ≤ l2 ∧ l2 ≤ 2147483647) (hQ : ∀ v : Int, (0 ≤ v) → Q v g) : w_Thought_guttersToEnd l2 g Q := by
  unfold w_Thought_guttersToEnd
  refine k_Thought_lastOnes I ⟨by omega, by omega⟩ (fun v1 b_1 => ?_)
  refine ⟨((10 - 0 : Int).toNat + 1), k_Thought_guttersToEnd_l16 (l3 := v1) I ⟨by omega, by omega⟩ (fun k12 b_8 => ?_) hQ ((10 - 0 : Int).toNat + 1) ⟨by omega, by omega⟩ (by omega) ⟨by omega, by omega⟩ (by omega)⟩
  exact hQ _ (by omega)
