-- by program (wip/gen/mkz.py)
-- SpoutNews.who(II)I
set_option maxRecDepth 100000 in
set_option maxHeartbeats 4000000 in
theorem k_S_who {l1 : Int} {l2 : Int} {g : zi_M} {Q : Int → zi_M → Prop} (I : zk_I g) (p1 : (-2147483648) ≤ l1 ∧ l1 ≤ 2147483647) (p2 : (-2147483648) ≤ l2 ∧ l2 ≤ 2147483647) (hQ : ∀ v : Int, (l1 < 0 → v = (-2)) → (0 ≤ l1 → (g 2 11) ≤ l1 → v = (-2)) → (0 ≤ l1 → l1 < (g 2 11) → (l2 = 0) → v = g 10 l1) → (0 ≤ l1 → l1 < (g 2 11) → (l2 = 1) → v = g 11 l1) → (0 ≤ l1 → l1 < (g 2 11) → ¬ l2 = 0 → ¬ l2 = 1 → v = (-2)) → Q v g) : w_S_who l1 l2 g Q := by
  unfold w_S_who
  have m_4 : 0 ≤ (g 2 11) ∧ (g 2 11) ≤ 8 := I.1 2 11
  refine k_World_isSitter I ⟨by omega, by omega⟩ (fun v1 b_1 b_2 b_3 => ?_)
  refine ⟨fun c8 => ?_, fun c8 => ?_⟩
  · refine ⟨⟨by omega, by omega⟩, ?_⟩
    refine ⟨fun c5_0 c5_1 => ?_, fun c5 => ?_, fun c5 => ?_⟩
    · have m_5 : (-2147483648) ≤ (g 10 l1) ∧ (g 10 l1) ≤ 2147483647 := I.1 10 l1
      have m_6 : (-1) ≤ (g 11 l1) ∧ (g 11 l1) ≤ 9 := I.1 11 l1
      exact hQ _ (by intros; omega) (by intros; omega) (by intros; omega) (by intros; omega) (by intros; omega)
    · refine ⟨⟨by omega, by omega⟩, ?_⟩
      have m_7 : (-2147483648) ≤ (g 10 l1) ∧ (g 10 l1) ≤ 2147483647 := I.1 10 l1
      have m_8 : (-1) ≤ (g 11 l1) ∧ (g 11 l1) ≤ 9 := I.1 11 l1
      exact hQ _ (by intros; omega) (by intros; omega) (by intros; omega) (by intros; omega) (by intros; omega)
    · refine ⟨⟨by omega, by omega⟩, ?_⟩
      have m_9 : (-1) ≤ (g 11 l1) ∧ (g 11 l1) ≤ 9 := I.1 11 l1
      have m_10 : (-2147483648) ≤ (g 10 l1) ∧ (g 10 l1) ≤ 2147483647 := I.1 10 l1
      exact hQ _ (by intros; omega) (by intros; omega) (by intros; omega) (by intros; omega) (by intros; omega)
  · have m_11 : (-2147483648) ≤ (g 10 l1) ∧ (g 10 l1) ≤ 2147483647 := I.1 10 l1
    have m_12 : (-1) ≤ (g 11 l1) ∧ (g 11 l1) ≤ 9 := I.1 11 l1
    exact hQ _ (by intros; omega) (by intros; omega) (by intros; omega) (by intros; omega) (by intros; omega)
-- SpoutNewsModel.who(II)I
set_option maxRecDepth 100000 in
set_option maxHeartbeats 4000000 in
theorem k_M_who {l1 : Int} {l2 : Int} {g : zi_M} {Q : Int → zi_M → Prop} (I : zk_I g) (p1 : (-2147483648) ≤ l1 ∧ l1 ≤ 2147483647) (p2 : (-2147483648) ≤ l2 ∧ l2 ≤ 2147483647) (hQ : ∀ (v : Int) (g' : zi_M), zk_I g' → zk_fr fr_M_who g g' → ((-2147483649) ≤ v ∧ v ≤ 2147483647) → (zWhm g (g 214 7) l1 l2 v) → Q v g') : w_M_who l1 l2 g Q := by
  unfold w_M_who
  intro g1 e_1
  have I_2 : zk_I g1 := by rw [e_1]; exact zk_upd (L := (-2147483648)) (H := 2147483647) rfl rfl I ⟨by omega, by omega⟩
  have F_3 : zk_fr fr_M_who g g1 := by rw [e_1]; exact zk_fu (zk_f0 _) ⟨rfl, rfl⟩
  have m_7 : 0 ≤ (g1 214 7) ∧ (g1 214 7) ≤ 8 := I_2.1 214 7
  have m_8 : g1 214 7 = g 214 7 := by rw [e_1]; exact zi_u_ni (by decide)
  have m_9 : 0 ≤ (g 214 7) ∧ (g 214 7) ≤ 8 := I.1 214 7
  refine k_M_isSitter I_2 ⟨by omega, by omega⟩ (fun v2 b_4 b_5 b_6 => ?_)
  refine ⟨fun c10 => ?_, fun c10 => ?_⟩
  · refine ⟨⟨by omega, by omega⟩, ?_⟩
    refine ⟨fun c9 => ?_, fun c9 => ?_⟩
    · refine ⟨fun c7 => ?_, fun c7 => ?_⟩
      · exact hQ _ _ I_2 F_3 ⟨by omega, by omega⟩ (by first | exact zWhm_k (by assumption) (by assumption) ⟨by omega, by omega⟩ | exact zWhm_a (by assumption) (by assumption) ⟨by omega, by omega⟩ | exact zWhm_n (by omega))
      · refine ⟨⟨by omega, by omega⟩, ?_⟩
        have m_10 := zk_now244 I_2 (i := (244 + l1)) (by omega)
        have m_11 : g1 215 (244 + l1) = g 215 (244 + l1) := by rw [e_1]; exact zi_u_ne (by decide)
        have m_12 := zk_now244 I (i := (244 + l1)) (by omega)
        exact hQ _ _ I_2 F_3 ⟨by omega, by omega⟩ (by first | exact zWhm_k (by assumption) (by assumption) ⟨by omega, by omega⟩ | exact zWhm_a (by assumption) (by assumption) ⟨by omega, by omega⟩ | exact zWhm_n (by omega))
    · refine ⟨⟨by omega, by omega⟩, ?_⟩
      have m_13 := zk_rng I_2 215 (236 + l1)
      have m_14 : g1 215 (236 + l1) = g 215 (236 + l1) := by rw [e_1]; exact zi_u_ne (by decide)
      have m_15 := zk_rng I 215 (236 + l1)
      exact hQ _ _ I_2 F_3 ⟨by omega, by omega⟩ (by first | exact zWhm_k (by assumption) (by assumption) ⟨by omega, by omega⟩ | exact zWhm_a (by assumption) (by assumption) ⟨by omega, by omega⟩ | exact zWhm_n (by omega))
  · exact hQ _ _ I_2 F_3 ⟨by omega, by omega⟩ (by first | exact zWhm_k (by assumption) (by assumption) ⟨by omega, by omega⟩ | exact zWhm_a (by assumption) (by assumption) ⟨by omega, by omega⟩ | exact zWhm_n (by omega))
-- SpoutNews.jar(II)I
set_option maxRecDepth 100000 in
set_option maxHeartbeats 4000000 in
theorem k_S_jar {l1 : Int} {l2 : Int} {g : zi_M} {Q : Int → zi_M → Prop} (I : zk_I g) (p1 : (-2147483648) ≤ l1 ∧ l1 ≤ 2147483647) (p2 : (-2147483648) ≤ l2 ∧ l2 ≤ 2147483647) (hQ : ∀ v : Int, (l1 < 0 → v = (-2)) → (0 ≤ l1 → l1 < 6 → (l2 = 0) → v = g 12 l1) → (0 ≤ l1 → l1 < 6 → (l2 = 1) → v = g 13 l1) → (0 ≤ l1 → l1 < 6 → ¬ l2 = 0 → ¬ l2 = 1 → v = (-2)) → (0 ≤ l1 → 6 ≤ l1 → v = (-2)) → Q v g) : w_S_jar l1 l2 g Q := by
  unfold w_S_jar
  refine ⟨⟨by omega, by omega⟩, ?_⟩
  refine ⟨fun c7 => ?_, fun c7 => ?_⟩
  · have m_1 : (-1) ≤ (g 12 l1) ∧ (g 12 l1) ≤ 9 := I.1 12 l1
    have m_2 : (-2147483648) ≤ (g 13 l1) ∧ (g 13 l1) ≤ 2147483647 := I.1 13 l1
    exact hQ _ (by intros; omega) (by intros; omega) (by intros; omega) (by intros; omega) (by intros; omega)
  · refine ⟨fun c6 => ?_, fun c6 => ?_⟩
    · refine ⟨⟨by omega, by omega⟩, ?_⟩
      refine ⟨fun c3_0 c3_1 => ?_, fun c3 => ?_, fun c3 => ?_⟩
      · have m_3 : (-1) ≤ (g 12 l1) ∧ (g 12 l1) ≤ 9 := I.1 12 l1
        have m_4 : (-2147483648) ≤ (g 13 l1) ∧ (g 13 l1) ≤ 2147483647 := I.1 13 l1
        exact hQ _ (by intros; omega) (by intros; omega) (by intros; omega) (by intros; omega) (by intros; omega)
      · refine ⟨⟨by omega, by omega⟩, ?_⟩
        have m_5 : (-1) ≤ (g 12 l1) ∧ (g 12 l1) ≤ 9 := I.1 12 l1
        have m_6 : (-2147483648) ≤ (g 13 l1) ∧ (g 13 l1) ≤ 2147483647 := I.1 13 l1
        exact hQ _ (by intros; omega) (by intros; omega) (by intros; omega) (by intros; omega) (by intros; omega)
      · refine ⟨⟨by omega, by omega⟩, ?_⟩
        have m_7 : (-2147483648) ≤ (g 13 l1) ∧ (g 13 l1) ≤ 2147483647 := I.1 13 l1
        have m_8 : (-1) ≤ (g 12 l1) ∧ (g 12 l1) ≤ 9 := I.1 12 l1
        exact hQ _ (by intros; omega) (by intros; omega) (by intros; omega) (by intros; omega) (by intros; omega)
    · have m_9 : (-1) ≤ (g 12 l1) ∧ (g 12 l1) ≤ 9 := I.1 12 l1
      have m_10 : (-2147483648) ≤ (g 13 l1) ∧ (g 13 l1) ≤ 2147483647 := I.1 13 l1
      exact hQ _ (by intros; omega) (by intros; omega) (by intros; omega) (by intros; omega) (by intros; omega)
-- SpoutNewsModel.jar(II)I
set_option maxRecDepth 100000 in
set_option maxHeartbeats 4000000 in
theorem k_M_jar {l1 : Int} {l2 : Int} {g : zi_M} {Q : Int → zi_M → Prop} (I : zk_I g) (p1 : (-2147483648) ≤ l1 ∧ l1 ≤ 2147483647) (p2 : (-2147483648) ≤ l2 ∧ l2 ≤ 2147483647) (hQ : ∀ (v : Int) (g' : zi_M), zk_I g' → zk_fr fr_M_jar g g' → ((-2147483649) ≤ v ∧ v ≤ 2147483647) → Q v g') : w_M_jar l1 l2 g Q := by
  unfold w_M_jar
  intro g1 e_1
  have I_2 : zk_I g1 := by rw [e_1]; exact zk_upd (L := (-2147483648)) (H := 2147483647) rfl rfl I ⟨by omega, by omega⟩
  have F_3 : zk_fr fr_M_jar g g1 := by rw [e_1]; exact zk_fu (zk_f0 _) ⟨rfl, rfl⟩
  refine k_M_isIn I_2 ⟨by omega, by omega⟩ ⟨by omega, by omega⟩ ⟨by omega, by omega⟩ (fun v2 b_4 b_5 b_6 => ?_)
  refine ⟨fun c10 => ?_, fun c10 => ?_⟩
  · refine ⟨⟨by omega, by omega⟩, ?_⟩
    refine ⟨fun c9 => ?_, fun c9 => ?_⟩
    · refine ⟨fun c7 => ?_, fun c7 => ?_⟩
      · exact hQ _ _ I_2 F_3 ⟨by omega, by omega⟩
      · refine ⟨⟨by omega, by omega⟩, ?_⟩
        have m_7 := zk_rng I_2 215 (258 + l1)
        have m_8 : g1 215 (258 + l1) = g 215 (258 + l1) := by rw [e_1]; exact zi_u_ne (by decide)
        have m_9 := zk_rng I 215 (258 + l1)
        exact hQ _ _ I_2 F_3 ⟨by omega, by omega⟩
    · refine ⟨⟨by omega, by omega⟩, ?_⟩
      have m_10 := zk_now252 I_2 (i := (252 + l1)) (by omega)
      have m_11 : g1 215 (252 + l1) = g 215 (252 + l1) := by rw [e_1]; exact zi_u_ne (by decide)
      have m_12 := zk_now252 I (i := (252 + l1)) (by omega)
      exact hQ _ _ I_2 F_3 ⟨by omega, by omega⟩
  · exact hQ _ _ I_2 F_3 ⟨by omega, by omega⟩
-- SpoutNews.weather(I)I
set_option maxRecDepth 100000 in
set_option maxHeartbeats 4000000 in
theorem k_S_weather {l1 : Int} {g : zi_M} {Q : Int → zi_M → Prop} (I : zk_I g) (p1 : (-2147483648) ≤ l1 ∧ l1 ≤ 2147483647) (hQ : ∀ v : Int, ((-1) ≤ v ∧ v ≤ 9) → (zWo (g 30) (g 31) (g 19 5) l1 v) → Q v g) : w_S_weather l1 g Q := by
  unfold w_S_weather
  have m_1 : 0 ≤ (g 19 5) ∧ (g 19 5) ≤ 16 := I.1 19 5
  refine k_Texts_rainOn I ⟨by omega, by omega⟩ (fun v1 b_2 b_3 => ?_)
  exact hQ _ ⟨by omega, by omega⟩ (by first | exact zWo_a (by omega) (by omega) (by assumption) (by assumption) | exact zWo_b (by assumption) | assumption)
-- SpoutNewsModel.weather(I)I
set_option maxRecDepth 100000 in
set_option maxHeartbeats 4000000 in
theorem k_M_weather {l1 : Int} {g : zi_M} {Q : Int → zi_M → Prop} (I : zk_I g) (p1 : (-2147483648) ≤ l1 ∧ l1 ≤ 2147483647) (hQ : ∀ (v : Int) (g' : zi_M), zk_I g' → zk_fr fr_M_weather g g' → ((-2147483648) ≤ v ∧ v ≤ 2147483647) → (zQw g' l1 v) → Q v g') : w_M_weather l1 g Q := by
  unfold w_M_weather
  intro g1 e_1
  have I_2 : zk_I g1 := by rw [e_1]; exact zk_upd (L := (-2147483648)) (H := 2147483647) rfl rfl I ⟨by omega, by omega⟩
  have F_3 : zk_fr fr_M_weather g g1 := by rw [e_1]; exact zk_fu (zk_f0 _) ⟨rfl, rfl⟩
  refine k_M_weatherOf I_2 ⟨by omega, by omega⟩ (fun v2 b_4 b_5 => ?_)
  exact hQ _ _ I_2 F_3 ⟨by omega, by omega⟩ (by first | exact zWo_a (by omega) (by omega) (by assumption) (by assumption) | exact zWo_b (by assumption) | assumption)
-- SpoutNews.book(II)I
set_option maxRecDepth 100000 in
set_option maxHeartbeats 4000000 in
theorem k_S_book {l1 : Int} {l2 : Int} {g : zi_M} {Q : Int → zi_M → Prop} (I : zk_I g) (p1 : (-2147483648) ≤ l1 ∧ l1 ≤ 2147483647) (p2 : (-2147483648) ≤ l2 ∧ l2 ≤ 2147483647) (hQ : ∀ v : Int, (l1 < 0 → v = (-1)) → (0 ≤ l1 → (g 2 19) ≤ l1 → v = (-1)) → (0 ≤ l1 → l1 < (g 2 19) → l1 < 150 → (l2 = 0) → v = g 15 l1) → (0 ≤ l1 → l1 < (g 2 19) → l1 < 150 → (l2 = 1) → v = g 16 l1) → (0 ≤ l1 → l1 < (g 2 19) → l1 < 150 → (l2 = 2) → v = g 17 l1) → (0 ≤ l1 → l1 < (g 2 19) → l1 < 150 → (l2 = 3) → v = g 18 l1) → (0 ≤ l1 → l1 < (g 2 19) → l1 < 150 → ¬ l2 = 0 → ¬ l2 = 1 → ¬ l2 = 2 → ¬ l2 = 3 → v = (-1)) → (0 ≤ l1 → l1 < (g 2 19) → 150 ≤ l1 → v = (-1)) → Q v g) : w_S_book l1 l2 g Q := by
  unfold w_S_book
  refine ⟨⟨by omega, by omega⟩, ?_⟩
  refine ⟨fun c11 => ?_, fun c11 => ?_⟩
  · have m_1 : 0 ≤ (g 2 19) ∧ (g 2 19) ≤ 150 := I.1 2 19
    have m_2 : (-2147483648) ≤ (g 15 l1) ∧ (g 15 l1) ≤ 2147483647 := I.1 15 l1
    have m_3 : (-2147483648) ≤ (g 16 l1) ∧ (g 16 l1) ≤ 2147483647 := I.1 16 l1
    have m_4 : (-2147483648) ≤ (g 17 l1) ∧ (g 17 l1) ≤ 2147483647 := I.1 17 l1
    have m_5 : (-2147483648) ≤ (g 18 l1) ∧ (g 18 l1) ≤ 2147483647 := I.1 18 l1
    exact hQ _ (by intros; omega) (by intros; omega) (by intros; omega) (by intros; omega) (by intros; omega) (by intros; omega) (by intros; omega) (by intros; omega)
  · have m_6 : 0 ≤ (g 2 19) ∧ (g 2 19) ≤ 150 := I.1 2 19
    refine ⟨⟨by omega, by omega⟩, ?_⟩
    refine ⟨fun c10 => ?_, fun c10 => ?_⟩
    · have m_7 : (-2147483648) ≤ (g 15 l1) ∧ (g 15 l1) ≤ 2147483647 := I.1 15 l1
      have m_8 : (-2147483648) ≤ (g 16 l1) ∧ (g 16 l1) ≤ 2147483647 := I.1 16 l1
      have m_9 : (-2147483648) ≤ (g 17 l1) ∧ (g 17 l1) ≤ 2147483647 := I.1 17 l1
      have m_10 : (-2147483648) ≤ (g 18 l1) ∧ (g 18 l1) ≤ 2147483647 := I.1 18 l1
      exact hQ _ (by intros; omega) (by intros; omega) (by intros; omega) (by intros; omega) (by intros; omega) (by intros; omega) (by intros; omega) (by intros; omega)
    · refine ⟨fun c9 => ?_, fun c9 => ?_⟩
      · refine ⟨⟨by omega, by omega⟩, ?_⟩
        refine ⟨fun c4 => ?_, fun c4 => ?_, fun c4 => ?_, fun c4 => ?_, fun c4 => ?_⟩
        · have m_11 : (-2147483648) ≤ (g 15 l1) ∧ (g 15 l1) ≤ 2147483647 := I.1 15 l1
          have m_12 : (-2147483648) ≤ (g 16 l1) ∧ (g 16 l1) ≤ 2147483647 := I.1 16 l1
          have m_13 : (-2147483648) ≤ (g 17 l1) ∧ (g 17 l1) ≤ 2147483647 := I.1 17 l1
          have m_14 : (-2147483648) ≤ (g 18 l1) ∧ (g 18 l1) ≤ 2147483647 := I.1 18 l1
          exact hQ _ (by intros; omega) (by intros; omega) (by intros; omega) (by intros; omega) (by intros; omega) (by intros; omega) (by intros; omega) (by intros; omega)
        · refine ⟨⟨by omega, by omega⟩, ?_⟩
          have m_15 : (-2147483648) ≤ (g 15 l1) ∧ (g 15 l1) ≤ 2147483647 := I.1 15 l1
          have m_16 : (-2147483648) ≤ (g 16 l1) ∧ (g 16 l1) ≤ 2147483647 := I.1 16 l1
          have m_17 : (-2147483648) ≤ (g 17 l1) ∧ (g 17 l1) ≤ 2147483647 := I.1 17 l1
          have m_18 : (-2147483648) ≤ (g 18 l1) ∧ (g 18 l1) ≤ 2147483647 := I.1 18 l1
          exact hQ _ (by intros; omega) (by intros; omega) (by intros; omega) (by intros; omega) (by intros; omega) (by intros; omega) (by intros; omega) (by intros; omega)
        · refine ⟨⟨by omega, by omega⟩, ?_⟩
          have m_19 : (-2147483648) ≤ (g 16 l1) ∧ (g 16 l1) ≤ 2147483647 := I.1 16 l1
          have m_20 : (-2147483648) ≤ (g 15 l1) ∧ (g 15 l1) ≤ 2147483647 := I.1 15 l1
          have m_21 : (-2147483648) ≤ (g 17 l1) ∧ (g 17 l1) ≤ 2147483647 := I.1 17 l1
          have m_22 : (-2147483648) ≤ (g 18 l1) ∧ (g 18 l1) ≤ 2147483647 := I.1 18 l1
          exact hQ _ (by intros; omega) (by intros; omega) (by intros; omega) (by intros; omega) (by intros; omega) (by intros; omega) (by intros; omega) (by intros; omega)
        · refine ⟨⟨by omega, by omega⟩, ?_⟩
          have m_23 : (-2147483648) ≤ (g 17 l1) ∧ (g 17 l1) ≤ 2147483647 := I.1 17 l1
          have m_24 : (-2147483648) ≤ (g 15 l1) ∧ (g 15 l1) ≤ 2147483647 := I.1 15 l1
          have m_25 : (-2147483648) ≤ (g 16 l1) ∧ (g 16 l1) ≤ 2147483647 := I.1 16 l1
          have m_26 : (-2147483648) ≤ (g 18 l1) ∧ (g 18 l1) ≤ 2147483647 := I.1 18 l1
          exact hQ _ (by intros; omega) (by intros; omega) (by intros; omega) (by intros; omega) (by intros; omega) (by intros; omega) (by intros; omega) (by intros; omega)
        · refine ⟨⟨by omega, by omega⟩, ?_⟩
          have m_27 : (-2147483648) ≤ (g 18 l1) ∧ (g 18 l1) ≤ 2147483647 := I.1 18 l1
          have m_28 : (-2147483648) ≤ (g 15 l1) ∧ (g 15 l1) ≤ 2147483647 := I.1 15 l1
          have m_29 : (-2147483648) ≤ (g 16 l1) ∧ (g 16 l1) ≤ 2147483647 := I.1 16 l1
          have m_30 : (-2147483648) ≤ (g 17 l1) ∧ (g 17 l1) ≤ 2147483647 := I.1 17 l1
          exact hQ _ (by intros; omega) (by intros; omega) (by intros; omega) (by intros; omega) (by intros; omega) (by intros; omega) (by intros; omega) (by intros; omega)
      · have m_31 : (-2147483648) ≤ (g 15 l1) ∧ (g 15 l1) ≤ 2147483647 := I.1 15 l1
        have m_32 : (-2147483648) ≤ (g 16 l1) ∧ (g 16 l1) ≤ 2147483647 := I.1 16 l1
        have m_33 : (-2147483648) ≤ (g 17 l1) ∧ (g 17 l1) ≤ 2147483647 := I.1 17 l1
        have m_34 : (-2147483648) ≤ (g 18 l1) ∧ (g 18 l1) ≤ 2147483647 := I.1 18 l1
        exact hQ _ (by intros; omega) (by intros; omega) (by intros; omega) (by intros; omega) (by intros; omega) (by intros; omega) (by intros; omega) (by intros; omega)
-- SpoutNewsModel.book(II)I
set_option maxRecDepth 100000 in
set_option maxHeartbeats 4000000 in
theorem k_M_book {l1 : Int} {l2 : Int} {g : zi_M} {Q : Int → zi_M → Prop} (I : zk_I g) (p1 : (-2147483648) ≤ l1 ∧ l1 ≤ 2147483647) (p2 : (-2147483648) ≤ l2 ∧ l2 ≤ 2147483647) (hQ : ∀ (v : Int) (g' : zi_M), zk_I g' → zk_fr fr_M_book g g' → ((-2147483648) ≤ v ∧ v ≤ 2147483647) → Q v g') : w_M_book l1 l2 g Q := by
  unfold w_M_book
  intro g1 e_1
  have I_2 : zk_I g1 := by rw [e_1]; exact zk_upd (L := (-2147483648)) (H := 2147483647) rfl rfl I ⟨by omega, by omega⟩
  have F_3 : zk_fr fr_M_book g g1 := by rw [e_1]; exact zk_fu (zk_f0 _) ⟨rfl, rfl⟩
  have m_4 := zk_now2 I_2 (i := 2) (by omega)
  have m_5 : g1 215 2 = g 215 2 := by rw [e_1]; exact zi_u_ne (by decide)
  have m_6 := zk_now2 I (i := 2) (by omega)
  refine k_M_isIn I_2 ⟨by omega, by omega⟩ ⟨by omega, by omega⟩ ⟨by omega, by omega⟩ (fun v2 b_7 b_8 b_9 => ?_)
  refine ⟨fun c10 => ?_, fun c10 => ?_⟩
  · exact hQ _ _ I_2 F_3 ⟨by omega, by omega⟩
  · refine k_M_isIn I_2 ⟨by omega, by omega⟩ ⟨by omega, by omega⟩ ⟨by omega, by omega⟩ (fun v5 b_10 b_11 b_12 => ?_)
    refine ⟨fun c9 => ?_, fun c9 => ?_⟩
    · exact hQ _ _ I_2 F_3 ⟨by omega, by omega⟩
    · refine ⟨⟨by omega, by omega⟩, ?_⟩
      have m_13 : (-2147483648) ≤ (g1 221 ((4 * l1) + l2)) ∧ (g1 221 ((4 * l1) + l2)) ≤ 2147483647 := I_2.1 221 ((4 * l1) + l2)
      have m_14 : g1 221 ((4 * l1) + l2) = g 221 ((4 * l1) + l2) := by rw [e_1]; exact zi_u_ne (by decide)
      have m_15 : (-2147483648) ≤ (g 221 ((4 * l1) + l2)) ∧ (g 221 ((4 * l1) + l2)) ≤ 2147483647 := I.1 221 ((4 * l1) + l2)
      exact hQ _ _ I_2 F_3 ⟨by omega, by omega⟩
-- SpoutNews$World.heardInAll()I
set_option maxRecDepth 100000 in
set_option maxHeartbeats 4000000 in
theorem k_World_heardInAll_l4 {g : zi_M} (I : zk_I g) {K27 : Int → zi_M → Prop} {Q : Int → zi_M → Prop} (hK27 : ∀ (k1 : Int), K27 k1 g) (hQ : ∀ v : Int, Q v g) : ∀ (n : Nat) {l1 : Int} {l2 : Int}, (0 ≤ l2 ∧ l2 ≤ 10) → 10 - l2 < (n : Int) → w_World_heardInAll_l4 K27 Q n l1 l2 g
  | 0, l1, l2, b0, hm => by exfalso; omega
  | n + 1, l1, l2, b0, hm => by
    unfold w_World_heardInAll_l4
    have m_1 : 0 ≤ (g 165 8) ∧ (g 165 8) ≤ 10 := I.1 165 8
    refine ⟨⟨by omega, by omega⟩, ⟨by omega, by omega⟩, ?_⟩
    refine ⟨fun c4 => ?_, fun c4 => ?_⟩
    · exact hK27 _
    · refine ⟨⟨by omega, by omega⟩, ?_⟩
      have m_2 : 0 ≤ (g 171 l2) ∧ (g 171 l2) ≤ 20 := I.1 171 l2
      have m_3 := zi_r_w (l1 + (g 171 l2))
      exact k_World_heardInAll_l4 I hK27 hQ n ⟨by omega, by omega⟩ (by omega)
set_option maxRecDepth 100000 in
set_option maxHeartbeats 4000000 in
theorem k_World_heardInAll {g : zi_M} {Q : Int → zi_M → Prop} (I : zk_I g) (hQ : ∀ v : Int, Q v g) : w_World_heardInAll g Q := by
  unfold w_World_heardInAll
  refine ⟨((10 - 0 : Int).toNat + 1), k_World_heardInAll_l4 I (fun k5 => ?_) hQ ((10 - 0 : Int).toNat + 1) ⟨by omega, by omega⟩ (by omega)⟩
  exact hQ _
-- SpoutNews.goes(II)I
set_option maxRecDepth 100000 in
set_option maxHeartbeats 4000000 in
theorem k_S_goes_l73 {l1 : Int} {K110 : zi_M → Prop} {Q : Int → zi_M → Prop} {g0 : zi_M} (q1 : 1 ≤ l1 ∧ l1 ≤ 60) (hK110 : ∀ (g : zi_M), zk_I g → zk_fr fr_S_goes g0 g → K110 g) (hQ : ∀ (v : Int) (g' : zi_M), zk_I g' → zk_fr fr_S_goes g0 g' → Q v g') : ∀ (n : Nat) {l5 : Int} {g : zi_M}, zk_I g → zk_fr fr_S_goes g0 g → (0 ≤ l5 ∧ l5 ≤ 60) → 60 - l5 < (n : Int) → w_S_goes_l73 l1 K110 Q n l5 g
  | 0, l5, g, I, F, b0, hm => by exfalso; omega
  | n + 1, l5, g, I, F, b0, hm => by
    unfold w_S_goes_l73
    refine ⟨⟨by omega, by omega⟩, ⟨by omega, by omega⟩, ?_⟩
    refine ⟨fun c13 => ?_, fun c13 => ?_⟩
    · exact hK110 _ I F
    · refine k_DayRun_pass rfl I (fun g11 I_6 F_7 b_5 => ?_)
      have F_8 : zk_fr fr_S_goes g0 g11 := zk_ft F F_7 (fun a i => (fun h => Or.elim h (fun h => (Or.inr (Or.inr (Or.inr (Or.inr (Or.inr (Or.inr (Or.inr (Or.inr (Or.inr (Or.inr (Or.inr (Or.inr (Or.inl h)))))))))))))) (fun h => Or.elim h (fun h => (Or.inr (Or.inr (Or.inr (Or.inr (Or.inr (Or.inr (Or.inr (Or.inr (Or.inr (Or.inr (Or.inr (Or.inr (Or.inr (Or.inl h))))))))))))))) (fun h => Or.elim h (fun h => (Or.inr (Or.inr (Or.inr (Or.inr (Or.inr (Or.inl h))))))) (fun h => Or.elim h (fun h => (Or.inr (Or.inr (Or.inr (Or.inr (Or.inr (Or.inr (Or.inr (Or.inl h))))))))) (fun h => Or.elim h (fun h => (Or.inr (Or.inr (Or.inr (Or.inr (Or.inr (Or.inr (Or.inr (Or.inr (Or.inl h)))))))))) (fun h => Or.elim h (fun h => (Or.inr (Or.inr (Or.inr (Or.inr (Or.inr (Or.inr (Or.inr (Or.inr (Or.inr (Or.inl h))))))))))) (fun h => Or.elim h (fun h => (Or.inr (Or.inr (Or.inr (Or.inr (Or.inr (Or.inr (Or.inr (Or.inr (Or.inr (Or.inr (Or.inl h)))))))))))) (fun h => Or.elim h (fun h => (Or.inr (Or.inr (Or.inr (Or.inr (Or.inr (Or.inr (Or.inr (Or.inr (Or.inr (Or.inr (Or.inr (Or.inl h))))))))))))) (fun h => Or.elim h (fun h => (Or.inl h)) (fun h => Or.elim h (fun h => (Or.inr (Or.inl h))) (fun h => Or.elim h (fun h => (Or.inr (Or.inr (Or.inr (Or.inr (Or.inr (Or.inr (Or.inl h)))))))) (fun h => Or.elim h (fun h => (Or.inr (Or.inr (Or.inr (Or.inr (Or.inr (Or.inr (Or.inr (Or.inr (Or.inr (Or.inr (Or.inr (Or.inr (Or.inr (Or.inr (Or.inl h)))))))))))))))) (fun h => Or.elim h (fun h => (Or.inr (Or.inr (Or.inr (Or.inr (Or.inr (Or.inr (Or.inr (Or.inr (Or.inr (Or.inr (Or.inr (Or.inr (Or.inr (Or.inr (Or.inr (Or.inl h))))))))))))))))) (fun h => Or.elim h (fun h => (Or.inr (Or.inr (Or.inr (Or.inr (Or.inr (Or.inr (Or.inr (Or.inr (Or.inr (Or.inr (Or.inr (Or.inr (Or.inr (Or.inr (Or.inr (Or.inr (Or.inl h)))))))))))))))))) (fun h => Or.elim h (fun h => (Or.inr (Or.inr (Or.inr (Or.inr (Or.inr (Or.inr (Or.inr (Or.inr (Or.inr (Or.inr (Or.inr (Or.inr (Or.inr (Or.inr (Or.inr (Or.inr (Or.inr (Or.inl h))))))))))))))))))) (fun h => Or.elim h (fun h => (Or.inr (Or.inr (Or.inr (Or.inr (Or.inr (Or.inr (Or.inr (Or.inr (Or.inr (Or.inr (Or.inr (Or.inr (Or.inr (Or.inr (Or.inr (Or.inr (Or.inr (Or.inr (Or.inl h)))))))))))))))))))) (fun h => Or.elim h (fun h => (Or.inr (Or.inr (Or.inr (Or.inr (Or.inr (Or.inr (Or.inr (Or.inr (Or.inr (Or.inr (Or.inr (Or.inr (Or.inr (Or.inr (Or.inr (Or.inr (Or.inr (Or.inr (Or.inr (Or.inr (Or.inl h)))))))))))))))))))))) (fun h => Or.elim h (fun h => (Or.inr (Or.inr (Or.inr (Or.inr (Or.inr (Or.inr (Or.inr (Or.inr (Or.inr (Or.inr (Or.inr (Or.inr (Or.inr (Or.inr (Or.inr (Or.inr (Or.inr (Or.inr (Or.inr (Or.inr (Or.inr (Or.inl h))))))))))))))))))))))) (fun h => Or.elim h (fun h => (Or.inr (Or.inr (Or.inr (Or.inr (Or.inr (Or.inr (Or.inr (Or.inr (Or.inr (Or.inr (Or.inr (Or.inr (Or.inr (Or.inr (Or.inr (Or.inr (Or.inr (Or.inr (Or.inr (Or.inr (Or.inr (Or.inr (Or.inl h)))))))))))))))))))))))) (fun h => Or.elim h (fun h => (Or.inr (Or.inr (Or.inr (Or.inr (Or.inr (Or.inr (Or.inr (Or.inr (Or.inr (Or.inr (Or.inr (Or.inr (Or.inr (Or.inr (Or.inr (Or.inr (Or.inr (Or.inr (Or.inr (Or.inr (Or.inr (Or.inr (Or.inr (Or.inl h))))))))))))))))))))))))) (fun h => Or.elim h (fun h => (Or.inr (Or.inr (Or.inr (Or.inr (Or.inr (Or.inr (Or.inr (Or.inr (Or.inr (Or.inr (Or.inr (Or.inr (Or.inr (Or.inr (Or.inr (Or.inr (Or.inr (Or.inr (Or.inr (Or.inr (Or.inr (Or.inr (Or.inr (Or.inr (Or.inl h)))))))))))))))))))))))))) (fun h => Or.elim h (fun h => (Or.inr (Or.inr (Or.inr (Or.inr (Or.inr (Or.inr (Or.inr (Or.inr (Or.inr (Or.inr (Or.inr (Or.inr (Or.inr (Or.inr (Or.inr (Or.inr (Or.inr (Or.inr (Or.inr (Or.inr (Or.inr (Or.inr (Or.inr (Or.inr (Or.inr (Or.inl h))))))))))))))))))))))))))) (fun h => (Or.inr (Or.inr (Or.inr (Or.inr (Or.inr (Or.inr (Or.inr (Or.inr (Or.inr (Or.inr (Or.inr (Or.inr (Or.inr (Or.inr (Or.inr (Or.inr (Or.inr (Or.inr (Or.inr (Or.inr (Or.inr (Or.inr (Or.inr (Or.inr (Or.inr (Or.inr (Or.inr h)))))))))))))))))))))))))))))))))))))))))))))))))))
      exact k_S_goes_l73 q1 hK110 hQ n I_6 F_8 ⟨by omega, by omega⟩ (by omega)
set_option maxRecDepth 100000 in
set_option maxHeartbeats 4000000 in
theorem k_S_goes_b32 {l1 : Int} {l2 : Int} {l3 : Int} {s0 : Int} {Q : Int → zi_M → Prop} {g : zi_M} {g0 : zi_M} (I : zk_I g) (F : zk_fr fr_S_goes g0 g) (p1 : (-2147483648) ≤ l1 ∧ l1 ≤ 2147483647) (p2 : (-2147483648) ≤ l2 ∧ l2 ≤ 2147483647) (p3 : 0 ≤ l3 ∧ l3 ≤ 1) (ix0 : ¬ s0 = 0 → 10 ≤ l2 ∧ l2 ≤ 15) (ps0 : 0 ≤ s0 ∧ s0 ≤ 1) (hQ : ∀ (v : Int) (g' : zi_M), zk_I g' → zk_fr fr_S_goes g0 g' → Q v g') : w_S_goes_b32 l1 l2 l3 s0 g Q := by
  unfold w_S_goes_b32
  refine ⟨⟨by omega, by omega⟩, ?_⟩
  refine ⟨fun c40 => ?_, fun c40 => ?_⟩
  · exact hQ _ _ I F
  · refine ⟨fun c39 => ?_, fun c39 => ?_⟩
    · exact hQ _ _ I F
    · refine ⟨⟨by omega, by omega⟩, ?_⟩
      refine ⟨fun c38 => ?_, fun c38 => ?_⟩
      · refine k_World_copyFrom rfl rfl I (fun g6 I_2 F_3 b_1 => ?_)
        have F_4 : zk_fr fr_S_goes g0 g6 := zk_ft F F_3 (fun a i => (fun h => Or.elim h (fun h => (Or.inr (Or.inr (Or.inl h)))) (fun h => Or.elim h (fun h => (Or.inr (Or.inr (Or.inr (Or.inr (Or.inr (Or.inr (Or.inr (Or.inr (Or.inr (Or.inr (Or.inr (Or.inr (Or.inl h)))))))))))))) (fun h => Or.elim h (fun h => (Or.inr (Or.inr (Or.inr (Or.inr (Or.inr (Or.inr (Or.inr (Or.inr (Or.inr (Or.inr (Or.inr (Or.inr (Or.inr (Or.inl h))))))))))))))) (fun h => Or.elim h (fun h => (Or.inr (Or.inr (Or.inr (Or.inl h))))) (fun h => Or.elim h (fun h => (Or.inr (Or.inr (Or.inr (Or.inr (Or.inl h)))))) (fun h => Or.elim h (fun h => (Or.inr (Or.inr (Or.inr (Or.inr (Or.inr (Or.inl h))))))) (fun h => Or.elim h (fun h => (Or.inr (Or.inr (Or.inr (Or.inr (Or.inr (Or.inr (Or.inr (Or.inl h))))))))) (fun h => Or.elim h (fun h => (Or.inr (Or.inr (Or.inr (Or.inr (Or.inr (Or.inr (Or.inr (Or.inr (Or.inl h)))))))))) (fun h => Or.elim h (fun h => (Or.inr (Or.inr (Or.inr (Or.inr (Or.inr (Or.inr (Or.inr (Or.inr (Or.inr (Or.inl h))))))))))) (fun h => Or.elim h (fun h => (Or.inr (Or.inr (Or.inr (Or.inr (Or.inr (Or.inr (Or.inr (Or.inr (Or.inr (Or.inr (Or.inl h)))))))))))) (fun h => Or.elim h (fun h => (Or.inr (Or.inr (Or.inr (Or.inr (Or.inr (Or.inr (Or.inr (Or.inr (Or.inr (Or.inr (Or.inr (Or.inl h))))))))))))) (fun h => Or.elim h (fun h => (Or.inr (Or.inr (Or.inr (Or.inr (Or.inr (Or.inr (Or.inr (Or.inr (Or.inr (Or.inr (Or.inr (Or.inr (Or.inr (Or.inr (Or.inr (Or.inr (Or.inr (Or.inr (Or.inr (Or.inl h))))))))))))))))))))) (fun h => Or.elim h (fun h => (Or.inr (Or.inr (Or.inr (Or.inr (Or.inr (Or.inr (Or.inr (Or.inr (Or.inr (Or.inr (Or.inr (Or.inr (Or.inr (Or.inr (Or.inr (Or.inr (Or.inr (Or.inr (Or.inr (Or.inr (Or.inl h)))))))))))))))))))))) (fun h => Or.elim h (fun h => (Or.inr (Or.inr (Or.inr (Or.inr (Or.inr (Or.inr (Or.inr (Or.inr (Or.inr (Or.inr (Or.inr (Or.inr (Or.inr (Or.inr (Or.inr (Or.inr (Or.inr (Or.inr (Or.inr (Or.inr (Or.inr (Or.inl h))))))))))))))))))))))) (fun h => Or.elim h (fun h => (Or.inr (Or.inr (Or.inr (Or.inr (Or.inr (Or.inr (Or.inr (Or.inr (Or.inr (Or.inr (Or.inr (Or.inr (Or.inr (Or.inr (Or.inr (Or.inr (Or.inr (Or.inr (Or.inr (Or.inr (Or.inr (Or.inr (Or.inl h)))))))))))))))))))))))) (fun h => Or.elim h (fun h => (Or.inr (Or.inr (Or.inr (Or.inr (Or.inr (Or.inr (Or.inr (Or.inr (Or.inr (Or.inr (Or.inr (Or.inr (Or.inr (Or.inr (Or.inr (Or.inr (Or.inr (Or.inr (Or.inr (Or.inr (Or.inr (Or.inr (Or.inr (Or.inl h))))))))))))))))))))))))) (fun h => Or.elim h (fun h => (Or.inr (Or.inr (Or.inr (Or.inr (Or.inr (Or.inr (Or.inr (Or.inr (Or.inr (Or.inr (Or.inr (Or.inr (Or.inr (Or.inr (Or.inr (Or.inr (Or.inr (Or.inr (Or.inr (Or.inr (Or.inr (Or.inr (Or.inr (Or.inr (Or.inl h)))))))))))))))))))))))))) (fun h => Or.elim h (fun h => (Or.inr (Or.inr (Or.inr (Or.inr (Or.inr (Or.inr (Or.inr (Or.inr (Or.inr (Or.inr (Or.inr (Or.inr (Or.inr (Or.inr (Or.inr (Or.inr (Or.inr (Or.inr (Or.inr (Or.inr (Or.inr (Or.inr (Or.inr (Or.inr (Or.inr (Or.inl h))))))))))))))))))))))))))) (fun h => (Or.inr (Or.inr (Or.inr (Or.inr (Or.inr (Or.inr (Or.inr (Or.inr (Or.inr (Or.inr (Or.inr (Or.inr (Or.inr (Or.inr (Or.inr (Or.inr (Or.inr (Or.inr (Or.inr (Or.inr (Or.inr (Or.inr (Or.inr (Or.inr (Or.inr (Or.inr (Or.inl h)))))))))))))))))))))))))))))))))))))))))))))))
        refine ⟨((60 - 0 : Int).toNat + 1), k_S_goes_l73 (l1 := l1) ⟨by omega, by omega⟩ (fun g14 I_9 F_10 => ?_) hQ ((60 - 0 : Int).toNat + 1) I_2 F_4 ⟨by omega, by omega⟩ (by omega)⟩
        refine ⟨⟨by omega, by omega⟩, ?_⟩
        refine ⟨fun c16 => ?_, fun c16 => ?_, fun c16 => ?_, fun c16 => ?_⟩
        · refine ⟨⟨by omega, by omega⟩, ?_⟩
          refine ⟨fun c19 => ?_, fun c19 => ?_⟩
          · exact hQ _ _ I_9 F_10
          · refine ⟨⟨by omega, by omega⟩, ?_⟩
            have m_11 : (-2147483648) ≤ (g14 176 (l2 - 10)) ∧ (g14 176 (l2 - 10)) ≤ 2147483647 := I_9.1 176 (l2 - 10)
            exact hQ _ _ I_9 F_10
        · have m_12 : (-2147483648) ≤ (g14 165 15) ∧ (g14 165 15) ≤ 2147483647 := I_9.1 165 15
          exact hQ _ _ I_9 F_10
        · have m_13 : (-2147483648) ≤ (g14 165 16) ∧ (g14 165 16) ≤ 2147483647 := I_9.1 165 16
          exact hQ _ _ I_9 F_10
        · refine k_World_heardInAll I_9 (fun v20 => ?_)
          exact hQ _ _ I_9 F_10
      · refine ⟨⟨by omega, by omega⟩, ?_⟩
        refine ⟨fun c37 => ?_, fun c37 => ?_⟩
        · refine k_World_copyFrom rfl rfl I (fun g26 I_15 F_16 b_14 => ?_)
          have F_17 : zk_fr fr_S_goes g0 g26 := zk_ft F F_16 (fun a i => (fun h => Or.elim h (fun h => (Or.inr (Or.inr (Or.inl h)))) (fun h => Or.elim h (fun h => (Or.inr (Or.inr (Or.inr (Or.inr (Or.inr (Or.inr (Or.inr (Or.inr (Or.inr (Or.inr (Or.inr (Or.inr (Or.inl h)))))))))))))) (fun h => Or.elim h (fun h => (Or.inr (Or.inr (Or.inr (Or.inr (Or.inr (Or.inr (Or.inr (Or.inr (Or.inr (Or.inr (Or.inr (Or.inr (Or.inr (Or.inl h))))))))))))))) (fun h => Or.elim h (fun h => (Or.inr (Or.inr (Or.inr (Or.inl h))))) (fun h => Or.elim h (fun h => (Or.inr (Or.inr (Or.inr (Or.inr (Or.inl h)))))) (fun h => Or.elim h (fun h => (Or.inr (Or.inr (Or.inr (Or.inr (Or.inr (Or.inl h))))))) (fun h => Or.elim h (fun h => (Or.inr (Or.inr (Or.inr (Or.inr (Or.inr (Or.inr (Or.inr (Or.inl h))))))))) (fun h => Or.elim h (fun h => (Or.inr (Or.inr (Or.inr (Or.inr (Or.inr (Or.inr (Or.inr (Or.inr (Or.inl h)))))))))) (fun h => Or.elim h (fun h => (Or.inr (Or.inr (Or.inr (Or.inr (Or.inr (Or.inr (Or.inr (Or.inr (Or.inr (Or.inl h))))))))))) (fun h => Or.elim h (fun h => (Or.inr (Or.inr (Or.inr (Or.inr (Or.inr (Or.inr (Or.inr (Or.inr (Or.inr (Or.inr (Or.inl h)))))))))))) (fun h => Or.elim h (fun h => (Or.inr (Or.inr (Or.inr (Or.inr (Or.inr (Or.inr (Or.inr (Or.inr (Or.inr (Or.inr (Or.inr (Or.inl h))))))))))))) (fun h => Or.elim h (fun h => (Or.inr (Or.inr (Or.inr (Or.inr (Or.inr (Or.inr (Or.inr (Or.inr (Or.inr (Or.inr (Or.inr (Or.inr (Or.inr (Or.inr (Or.inr (Or.inr (Or.inr (Or.inr (Or.inr (Or.inl h))))))))))))))))))))) (fun h => Or.elim h (fun h => (Or.inr (Or.inr (Or.inr (Or.inr (Or.inr (Or.inr (Or.inr (Or.inr (Or.inr (Or.inr (Or.inr (Or.inr (Or.inr (Or.inr (Or.inr (Or.inr (Or.inr (Or.inr (Or.inr (Or.inr (Or.inl h)))))))))))))))))))))) (fun h => Or.elim h (fun h => (Or.inr (Or.inr (Or.inr (Or.inr (Or.inr (Or.inr (Or.inr (Or.inr (Or.inr (Or.inr (Or.inr (Or.inr (Or.inr (Or.inr (Or.inr (Or.inr (Or.inr (Or.inr (Or.inr (Or.inr (Or.inr (Or.inl h))))))))))))))))))))))) (fun h => Or.elim h (fun h => (Or.inr (Or.inr (Or.inr (Or.inr (Or.inr (Or.inr (Or.inr (Or.inr (Or.inr (Or.inr (Or.inr (Or.inr (Or.inr (Or.inr (Or.inr (Or.inr (Or.inr (Or.inr (Or.inr (Or.inr (Or.inr (Or.inr (Or.inl h)))))))))))))))))))))))) (fun h => Or.elim h (fun h => (Or.inr (Or.inr (Or.inr (Or.inr (Or.inr (Or.inr (Or.inr (Or.inr (Or.inr (Or.inr (Or.inr (Or.inr (Or.inr (Or.inr (Or.inr (Or.inr (Or.inr (Or.inr (Or.inr (Or.inr (Or.inr (Or.inr (Or.inr (Or.inl h))))))))))))))))))))))))) (fun h => Or.elim h (fun h => (Or.inr (Or.inr (Or.inr (Or.inr (Or.inr (Or.inr (Or.inr (Or.inr (Or.inr (Or.inr (Or.inr (Or.inr (Or.inr (Or.inr (Or.inr (Or.inr (Or.inr (Or.inr (Or.inr (Or.inr (Or.inr (Or.inr (Or.inr (Or.inr (Or.inl h)))))))))))))))))))))))))) (fun h => Or.elim h (fun h => (Or.inr (Or.inr (Or.inr (Or.inr (Or.inr (Or.inr (Or.inr (Or.inr (Or.inr (Or.inr (Or.inr (Or.inr (Or.inr (Or.inr (Or.inr (Or.inr (Or.inr (Or.inr (Or.inr (Or.inr (Or.inr (Or.inr (Or.inr (Or.inr (Or.inr (Or.inl h))))))))))))))))))))))))))) (fun h => (Or.inr (Or.inr (Or.inr (Or.inr (Or.inr (Or.inr (Or.inr (Or.inr (Or.inr (Or.inr (Or.inr (Or.inr (Or.inr (Or.inr (Or.inr (Or.inr (Or.inr (Or.inr (Or.inr (Or.inr (Or.inr (Or.inr (Or.inr (Or.inr (Or.inr (Or.inr (Or.inl h)))))))))))))))))))))))))))))))))))))))))))))))
          refine ⟨((60 - 0 : Int).toNat + 1), k_S_goes_l73 (l1 := l1) ⟨by omega, by omega⟩ (fun g28 I_18 F_19 => ?_) hQ ((60 - 0 : Int).toNat + 1) I_15 F_17 ⟨by omega, by omega⟩ (by omega)⟩
          refine ⟨⟨by omega, by omega⟩, ?_⟩
          refine ⟨fun c30 => ?_, fun c30 => ?_, fun c30 => ?_, fun c30 => ?_⟩
          · refine ⟨fun c32 => ?_, fun c32 => ?_⟩
            · exact hQ _ _ I_18 F_19
            · refine ⟨⟨by omega, by omega⟩, ?_⟩
              have m_20 : (-2147483648) ≤ (g28 176 (l2 - 10)) ∧ (g28 176 (l2 - 10)) ≤ 2147483647 := I_18.1 176 (l2 - 10)
              exact hQ _ _ I_18 F_19
          · have m_21 : (-2147483648) ≤ (g28 165 15) ∧ (g28 165 15) ≤ 2147483647 := I_18.1 165 15
            exact hQ _ _ I_18 F_19
          · have m_22 : (-2147483648) ≤ (g28 165 16) ∧ (g28 165 16) ≤ 2147483647 := I_18.1 165 16
            exact hQ _ _ I_18 F_19
          · refine k_World_heardInAll I_18 (fun v33 => ?_)
            exact hQ _ _ I_18 F_19
        · exact hQ _ _ I F
set_option maxRecDepth 100000 in
set_option maxHeartbeats 4000000 in
theorem k_S_goes_b14 {l1 : Int} {l2 : Int} {s0 : Int} {Q : Int → zi_M → Prop} {g : zi_M} {g0 : zi_M} (I : zk_I g) (F : zk_fr fr_S_goes g0 g) (p1 : (-2147483648) ≤ l1 ∧ l1 ≤ 2147483647) (p2 : (-2147483648) ≤ l2 ∧ l2 ≤ 2147483647) (ps0 : 0 ≤ s0 ∧ s0 ≤ 1) (hQ : ∀ (v : Int) (g' : zi_M), zk_I g' → zk_fr fr_S_goes g0 g' → Q v g') : w_S_goes_b14 l1 l2 s0 g Q := by
  unfold w_S_goes_b14
  refine ⟨⟨by omega, by omega⟩, ?_⟩
  refine ⟨fun c42 => ?_, fun c42 => ?_⟩
  · exact k_S_goes_b32 I F ⟨by omega, by omega⟩ ⟨by omega, by omega⟩ ⟨by omega, by omega⟩ (by omega) ⟨by omega, by omega⟩ hQ
  · refine ⟨fun c41 => ?_, fun c41 => ?_⟩
    · exact k_S_goes_b32 I F ⟨by omega, by omega⟩ ⟨by omega, by omega⟩ ⟨by omega, by omega⟩ (by omega) ⟨by omega, by omega⟩ hQ
    · exact k_S_goes_b32 I F ⟨by omega, by omega⟩ ⟨by omega, by omega⟩ ⟨by omega, by omega⟩ (by omega) ⟨by omega, by omega⟩ hQ
set_option maxRecDepth 100000 in
set_option maxHeartbeats 4000000 in
theorem k_S_goes {l1 : Int} {l2 : Int} {g : zi_M} {Q : Int → zi_M → Prop} (I : zk_I g) (p1 : (-2147483648) ≤ l1 ∧ l1 ≤ 2147483647) (p2 : (-2147483648) ≤ l2 ∧ l2 ≤ 2147483647) (hQ : ∀ (v : Int) (g' : zi_M), zk_I g' → zk_fr fr_S_goes g g' → Q v g') : w_S_goes l1 l2 g Q := by
  unfold w_S_goes
  refine ⟨⟨by omega, by omega⟩, ?_⟩
  refine ⟨fun c44 => ?_, fun c44 => ?_⟩
  · exact k_S_goes_b14 I (zk_f0 _) ⟨by omega, by omega⟩ ⟨by omega, by omega⟩ ⟨by omega, by omega⟩ hQ
  · refine ⟨fun c43 => ?_, fun c43 => ?_⟩
    · exact k_S_goes_b14 I (zk_f0 _) ⟨by omega, by omega⟩ ⟨by omega, by omega⟩ ⟨by omega, by omega⟩ hQ
    · exact k_S_goes_b14 I (zk_f0 _) ⟨by omega, by omega⟩ ⟨by omega, by omega⟩ ⟨by omega, by omega⟩ hQ
-- SpoutNewsModel.thinks()V
set_option maxRecDepth 100000 in
set_option maxHeartbeats 4000000 in
theorem k_M_thinks_l2 {K27 : zi_M → Prop} {Q : Int → zi_M → Prop} {g0 : zi_M} (hK27 : ∀ (g : zi_M), zk_I g → zk_fr fr_M_thinks g0 g → (zTh 264 g0 g) → K27 g) (hQ : ∀ g' : zi_M, zk_I g' → zk_fr fr_M_thinks g0 g' → (zTh 264 g0 g') → Q 0 g') : ∀ (n : Nat) {l1 : Int} {g : zi_M}, zk_I g → zk_fr fr_M_thinks g0 g → (0 ≤ l1 ∧ l1 ≤ 264) → (zTh l1 g0 g) → 264 - l1 < (n : Int) → w_M_thinks_l2 K27 Q n l1 g
  | 0, l1, g, I, F, b0, b1, hm => by exfalso; omega
  | n + 1, l1, g, I, F, b0, b1, hm => by
    unfold w_M_thinks_l2
    refine ⟨⟨by omega, by omega⟩, ?_⟩
    refine ⟨fun c4 => ?_, fun c4 => ?_⟩
    · exact hK27 _ I F (by exact zTh_x (by assumption) (by omega))
    · refine ⟨⟨by omega, by omega⟩, ?_⟩
      have m_4 := zk_rng I 215 l1
      intro g3 e_1
      have I_2 : zk_I g3 := by rw [e_1]; exact zk_row4 I
      have F_3 : zk_fr fr_M_thinks g0 g3 := by rw [e_1]; exact zk_fu F (Or.inl rfl)
      exact k_M_thinks_l2 hK27 hQ n I_2 F_3 ⟨by omega, by omega⟩ (by first | exact zTh_s (by assumption) F (by assumption) | exact zTh_0) (by omega)
set_option maxRecDepth 100000 in
set_option maxHeartbeats 4000000 in
theorem k_M_thinks {g : zi_M} {Q : Int → zi_M → Prop} (I : zk_I g) (hQ : ∀ g' : zi_M, zk_I g' → zk_fr fr_M_thinks g g' → (zTh 264 g g') → Q 0 g') : w_M_thinks g Q := by
  unfold w_M_thinks
  refine ⟨((264 - 0 : Int).toNat + 1), k_M_thinks_l2 (fun g5 I_5 F_6 b_7 => ?_) hQ ((264 - 0 : Int).toNat + 1) I (zk_f0 _) ⟨by omega, by omega⟩ (by first | exact zTh_s (by assumption) F (by assumption) | exact zTh_0) (by omega)⟩
  intro g6 e_8
  have I_9 : zk_I g6 := by rw [e_8]; exact zk_upd (L := 0) (H := 1) rfl rfl I_5 ⟨by omega, by omega⟩
  have F_10 : zk_fr fr_M_thinks g g6 := by rw [e_8]; exact zk_fu F_6 (Or.inr ⟨rfl, rfl⟩)
  exact hQ _ I_9 F_10 (by exact zTh_p (by assumption) (by assumption))
-- SpoutNewsModel.endsThought()V
set_option maxRecDepth 100000 in
set_option maxHeartbeats 4000000 in
theorem k_M_endsThought_l2 {K27 : zi_M → Prop} {Q : Int → zi_M → Prop} {g0 : zi_M} (hK27 : ∀ (g : zi_M), zk_I g → zk_fr fr_M_endsThought g0 g → (zTe 264 g0 g) → K27 g) (hQ : ∀ g' : zi_M, zk_I g' → zk_fr fr_M_endsThought g0 g' → (zTe 264 g0 g') → Q 0 g') : ∀ (n : Nat) {l1 : Int} {g : zi_M}, zk_I g → zk_fr fr_M_endsThought g0 g → (0 ≤ l1 ∧ l1 ≤ 264) → (zTe l1 g0 g) → 264 - l1 < (n : Int) → w_M_endsThought_l2 K27 Q n l1 g
  | 0, l1, g, I, F, b0, b1, hm => by exfalso; omega
  | n + 1, l1, g, I, F, b0, b1, hm => by
    unfold w_M_endsThought_l2
    refine ⟨⟨by omega, by omega⟩, ?_⟩
    refine ⟨fun c4 => ?_, fun c4 => ?_⟩
    · exact hK27 _ I F (by exact zTe_x (by assumption) (by omega))
    · refine ⟨⟨by omega, by omega⟩, ?_⟩
      have m_4 := zk_rng I 217 l1
      intro g3 e_1
      have I_2 : zk_I g3 := by rw [e_1]; exact zk_row5 I
      have F_3 : zk_fr fr_M_endsThought g0 g3 := by rw [e_1]; exact zk_fu F (Or.inl rfl)
      exact k_M_endsThought_l2 hK27 hQ n I_2 F_3 ⟨by omega, by omega⟩ (by first | exact zTe_s (by assumption) F (by assumption) | exact zTe_0) (by omega)
set_option maxRecDepth 100000 in
set_option maxHeartbeats 4000000 in
theorem k_M_endsThought {g : zi_M} {Q : Int → zi_M → Prop} (I : zk_I g) (hQ : ∀ g' : zi_M, zk_I g' → zk_fr fr_M_endsThought g g' → (zTe 264 g g') → Q 0 g') : w_M_endsThought g Q := by
  unfold w_M_endsThought
  refine ⟨((264 - 0 : Int).toNat + 1), k_M_endsThought_l2 (fun g5 I_5 F_6 b_7 => ?_) hQ ((264 - 0 : Int).toNat + 1) I (zk_f0 _) ⟨by omega, by omega⟩ (by first | exact zTe_s (by assumption) F (by assumption) | exact zTe_0) (by omega)⟩
  intro g6 e_8
  have I_9 : zk_I g6 := by rw [e_8]; exact zk_upd (L := 0) (H := 1) rfl rfl I_5 ⟨by omega, by omega⟩
  have F_10 : zk_fr fr_M_endsThought g g6 := by rw [e_8]; exact zk_fu F_6 (Or.inr ⟨rfl, rfl⟩)
  exact hQ _ I_9 F_10 (by exact zTe_p (by assumption) (by assumption))
-- SpoutNewsModel.goes(II)I
set_option maxRecDepth 100000 in
set_option maxHeartbeats 4000000 in
theorem k_M_goes_l46 {l1 : Int} {K62 : zi_M → Prop} {Q : Int → zi_M → Prop} {g0 : zi_M} (q1 : 1 ≤ l1 ∧ l1 ≤ 60) (hK62 : ∀ (g : zi_M), zk_I g → zk_fr fr_M_goes g0 g → (zTq g0 g) → K62 g) (hQ : ∀ (v : Int) (g' : zi_M), zk_I g' → zk_fr fr_M_goes g0 g' → (∀ k : Int, 0 ≤ k → k < 264 → g' 215 k = g0 215 k) → Q v g') : ∀ (n : Nat) {l3 : Int} {g : zi_M}, zk_I g → zk_fr fr_M_goes g0 g → (0 ≤ l3 ∧ l3 ≤ 60) → (zTq g0 g) → 60 - l3 < (n : Int) → w_M_goes_l46 l1 K62 Q n l3 g
  | 0, l3, g, I, F, b0, b1, hm => by exfalso; omega
  | n + 1, l3, g, I, F, b0, b1, hm => by
    unfold w_M_goes_l46
    refine ⟨⟨by omega, by omega⟩, ⟨by omega, by omega⟩, ?_⟩
    refine ⟨fun c16 => ?_, fun c16 => ?_⟩
    · exact hK62 _ I F (by assumption)
    · have m_14 := zk_rng I 215 4
      refine k_M_goesBy I (fun v13 g14 I_18 F_19 b_15 b_16 b_17 => ?_)
      have F_20 : zk_fr fr_M_goes g0 g14 := zk_ft F F_19 (fun a i => (fun h => Or.elim h (fun h => (Or.inr (Or.inr (Or.inl h)))) (fun h => Or.elim h (fun h => (Or.inr (Or.inr (Or.inr (Or.inl h))))) (fun h => Or.elim h (fun h => (Or.inr (Or.inr (Or.inr (Or.inr (Or.inl h)))))) (fun h => Or.elim h (fun h => (Or.inr (Or.inr (Or.inr (Or.inr (Or.inr (Or.inl h))))))) (fun h => Or.elim h (fun h => (Or.inr (Or.inr (Or.inr (Or.inr (Or.inr (Or.inr (Or.inl h)))))))) (fun h => Or.elim h (fun h => (Or.inr (Or.inr (Or.inr (Or.inr (Or.inr (Or.inr (Or.inr (Or.inr (Or.inl h)))))))))) (fun h => Or.elim h (fun h => (Or.inl h.1)) (fun h => Or.elim h (fun h => (Or.inl h.1)) (fun h => Or.elim h (fun h => (Or.inl h.1)) (fun h => Or.elim h (fun h => (Or.inl h.1)) (fun h => Or.elim h (fun h => (Or.inl h.1)) (fun h => Or.elim h (fun h => (Or.inl h.1)) (fun h => Or.elim h (fun h => (Or.inl h.1)) (fun h => Or.elim h (fun h => (Or.inl h.1)) (fun h => Or.elim h (fun h => (Or.inl h.1)) (fun h => Or.elim h (fun h => (Or.inl h.1)) (fun h => Or.elim h (fun h => (Or.inl h.1)) (fun h => Or.elim h (fun h => (Or.inl h.1)) (fun h => Or.elim h (fun h => (Or.inl h.1)) (fun h => (Or.inl h.1))))))))))))))))))))))
      exact k_M_goes_l46 q1 hK62 hQ n I_18 F_20 ⟨by omega, by omega⟩ (by first | exact zTq_s (by assumption) (by assumption) | exact zTq_0 (by assumption) (by assumption)) (by omega)
set_option maxRecDepth 100000 in
set_option maxHeartbeats 4000000 in
theorem k_M_goes_l67 {K95 : Int → zi_M → Prop} {Q : Int → zi_M → Prop} {g0 : zi_M} (hK95 : ∀ (k3 : Int) (g : zi_M), zk_I g → zk_fr fr_M_goes g0 g → (zTq g0 g) → K95 k3 g) (hQ : ∀ (v : Int) (g' : zi_M), zk_I g' → zk_fr fr_M_goes g0 g' → (∀ k : Int, 0 ≤ k → k < 264 → g' 215 k = g0 215 k) → Q v g') : ∀ (n : Nat) {l3 : Int} {l4 : Int} {g : zi_M}, zk_I g → zk_fr fr_M_goes g0 g → (0 ≤ l4 ∧ l4 ≤ 10) → (zTq g0 g) → 10 - l4 < (n : Int) → w_M_goes_l67 K95 Q n l3 l4 g
  | 0, l3, l4, g, I, F, b0, b1, hm => by exfalso; omega
  | n + 1, l3, l4, g, I, F, b0, b1, hm => by
    unfold w_M_goes_l67
    have m_24 : 0 ≤ (g 214 6) ∧ (g 214 6) ≤ 10 := I.1 214 6
    refine ⟨⟨by omega, by omega⟩, ⟨by omega, by omega⟩, ?_⟩
    refine ⟨fun c21 => ?_, fun c21 => ?_⟩
    · exact hK95 _ _ I F (by assumption)
    · refine ⟨⟨by omega, by omega⟩, ?_⟩
      have m_25 := zk_now26 I (i := (26 + l4)) (by omega)
      have m_26 := zi_r_w (l3 + (g 215 (26 + l4)))
      exact k_M_goes_l67 hK95 hQ n I F ⟨by omega, by omega⟩ (by assumption) (by omega)
set_option maxRecDepth 100000 in
set_option maxHeartbeats 4000000 in
theorem k_M_goes {l1 : Int} {l2 : Int} {g : zi_M} {Q : Int → zi_M → Prop} (I : zk_I g) (p1 : (-2147483648) ≤ l1 ∧ l1 ≤ 2147483647) (p2 : (-2147483648) ≤ l2 ∧ l2 ≤ 2147483647) (hQ : ∀ (v : Int) (g' : zi_M), zk_I g' → zk_fr fr_M_goes g g' → (∀ k : Int, 0 ≤ k → k < 264 → g' 215 k = g 215 k) → Q v g') : w_M_goes l1 l2 g Q := by
  unfold w_M_goes
  intro g1 e_1
  have I_2 : zk_I g1 := by rw [e_1]; exact zk_upd (L := (-2147483648)) (H := 2147483647) rfl rfl I ⟨by omega, by omega⟩
  have F_3 : zk_fr fr_M_goes g g1 := by rw [e_1]; exact zk_fu (zk_f0 _) (Or.inr (Or.inr (Or.inr (Or.inr (Or.inr (Or.inr (Or.inr (Or.inl ⟨rfl, rfl⟩))))))))
  refine k_M_isIn I_2 ⟨by omega, by omega⟩ ⟨by omega, by omega⟩ ⟨by omega, by omega⟩ (fun v2 b_4 b_5 b_6 => ?_)
  refine ⟨fun c73 => ?_, fun c73 => ?_⟩
  · exact hQ _ _ I_2 F_3 (by first | exact zTj_e (by assumption) (by assumption) | exact zTj_0 (by assumption))
  · refine k_M_isIn I_2 ⟨by omega, by omega⟩ ⟨by omega, by omega⟩ ⟨by omega, by omega⟩ (fun v5 b_7 b_8 b_9 => ?_)
    refine ⟨fun c72 => ?_, fun c72 => ?_⟩
    · refine k_M_thinks I_2 (fun g9 I_11 F_12 b_10 => ?_)
      have F_13 : zk_fr fr_M_goes g g9 := zk_ft F_3 F_12 (fun a i => (fun h => Or.elim h (fun h => (Or.inr (Or.inl h))) (fun h => (Or.inr (Or.inr (Or.inr (Or.inr (Or.inr (Or.inr (Or.inr (Or.inr (Or.inr h))))))))))))
      refine ⟨((60 - 0 : Int).toNat + 1), k_M_goes_l46 (l1 := l1) ⟨by omega, by omega⟩ (fun g17 I_21 F_22 b_23 => ?_) hQ ((60 - 0 : Int).toNat + 1) I_11 F_13 ⟨by omega, by omega⟩ (by first | exact zTq_s (by assumption) (by assumption) | exact zTq_0 (by assumption) (by assumption)) (by omega)⟩
      refine ⟨((10 - 0 : Int).toNat + 1), k_M_goes_l67 (fun k22 g23 I_27 F_28 b_29 => ?_) hQ ((10 - 0 : Int).toNat + 1) I_21 F_22 ⟨by omega, by omega⟩ (by assumption) (by omega)⟩
      refine ⟨⟨by omega, by omega⟩, ?_⟩
      refine ⟨fun c40 => ?_, fun c40 => ?_⟩
      · refine ⟨fun c36 => ?_, fun c36 => ?_⟩
        · refine ⟨fun c32 => ?_, fun c32 => ?_⟩
          · refine ⟨⟨by omega, by omega⟩, ?_⟩
            refine k_M_endsThought I_27 (fun g27 I_31 F_32 b_30 => ?_)
            have F_33 : zk_fr fr_M_goes g g27 := zk_ft F_28 F_32 (fun a i => (fun h => Or.elim h (fun h => (Or.inl h)) (fun h => (Or.inr (Or.inr (Or.inr (Or.inr (Or.inr (Or.inr (Or.inr (Or.inr (Or.inr h))))))))))))
            have m_34 := zk_rng I_27 215 ((258 + l2) - 10)
            exact hQ _ _ I_31 F_33 (by first | exact zTj_e (by assumption) (by assumption) | exact zTj_0 (by assumption))
          · refine k_M_endsThought I_27 (fun g30 I_36 F_37 b_35 => ?_)
            have F_38 : zk_fr fr_M_goes g g30 := zk_ft F_28 F_37 (fun a i => (fun h => Or.elim h (fun h => (Or.inl h)) (fun h => (Or.inr (Or.inr (Or.inr (Or.inr (Or.inr (Or.inr (Or.inr (Or.inr (Or.inr h))))))))))))
            exact hQ _ _ I_36 F_38 (by first | exact zTj_e (by assumption) (by assumption) | exact zTj_0 (by assumption))
        · refine k_M_endsThought I_27 (fun g34 I_40 F_41 b_39 => ?_)
          have F_42 : zk_fr fr_M_goes g g34 := zk_ft F_28 F_41 (fun a i => (fun h => Or.elim h (fun h => (Or.inl h)) (fun h => (Or.inr (Or.inr (Or.inr (Or.inr (Or.inr (Or.inr (Or.inr (Or.inr (Or.inr h))))))))))))
          have m_43 := zk_rng I_27 215 5
          exact hQ _ _ I_40 F_42 (by first | exact zTj_e (by assumption) (by assumption) | exact zTj_0 (by assumption))
      · refine k_M_endsThought I_27 (fun g38 I_45 F_46 b_44 => ?_)
        have F_47 : zk_fr fr_M_goes g g38 := zk_ft F_28 F_46 (fun a i => (fun h => Or.elim h (fun h => (Or.inl h)) (fun h => (Or.inr (Or.inr (Or.inr (Or.inr (Or.inr (Or.inr (Or.inr (Or.inr (Or.inr h))))))))))))
        have m_48 := zk_rng I_27 215 4
        exact hQ _ _ I_45 F_47 (by first | exact zTj_e (by assumption) (by assumption) | exact zTj_0 (by assumption))
    · refine k_M_isIn I_2 ⟨by omega, by omega⟩ ⟨by omega, by omega⟩ ⟨by omega, by omega⟩ (fun v43 b_49 b_50 b_51 => ?_)
      refine ⟨fun c71 => ?_, fun c71 => ?_⟩
      · refine k_M_thinks I_2 (fun g47 I_53 F_54 b_52 => ?_)
        have F_55 : zk_fr fr_M_goes g g47 := zk_ft F_3 F_54 (fun a i => (fun h => Or.elim h (fun h => (Or.inr (Or.inl h))) (fun h => (Or.inr (Or.inr (Or.inr (Or.inr (Or.inr (Or.inr (Or.inr (Or.inr (Or.inr h))))))))))))
        refine ⟨((60 - 0 : Int).toNat + 1), k_M_goes_l46 (l1 := l1) ⟨by omega, by omega⟩ (fun g49 I_56 F_57 b_58 => ?_) hQ ((60 - 0 : Int).toNat + 1) I_53 F_55 ⟨by omega, by omega⟩ (by first | exact zTq_s (by assumption) (by assumption) | exact zTq_0 (by assumption) (by assumption)) (by omega)⟩
        refine ⟨((10 - 0 : Int).toNat + 1), k_M_goes_l67 (fun k50 g51 I_59 F_60 b_61 => ?_) hQ ((10 - 0 : Int).toNat + 1) I_56 F_57 ⟨by omega, by omega⟩ (by assumption) (by omega)⟩
        refine ⟨⟨by omega, by omega⟩, ?_⟩
        refine ⟨fun c68 => ?_, fun c68 => ?_⟩
        · refine ⟨fun c64 => ?_, fun c64 => ?_⟩
          · refine ⟨fun c60 => ?_, fun c60 => ?_⟩
            · refine ⟨⟨by omega, by omega⟩, ?_⟩
              refine k_M_endsThought I_59 (fun g55 I_63 F_64 b_62 => ?_)
              have F_65 : zk_fr fr_M_goes g g55 := zk_ft F_60 F_64 (fun a i => (fun h => Or.elim h (fun h => (Or.inl h)) (fun h => (Or.inr (Or.inr (Or.inr (Or.inr (Or.inr (Or.inr (Or.inr (Or.inr (Or.inr h))))))))))))
              have m_66 := zk_rng I_59 215 ((258 + l2) - 10)
              exact hQ _ _ I_63 F_65 (by first | exact zTj_e (by assumption) (by assumption) | exact zTj_0 (by assumption))
            · refine k_M_endsThought I_59 (fun g58 I_68 F_69 b_67 => ?_)
              have F_70 : zk_fr fr_M_goes g g58 := zk_ft F_60 F_69 (fun a i => (fun h => Or.elim h (fun h => (Or.inl h)) (fun h => (Or.inr (Or.inr (Or.inr (Or.inr (Or.inr (Or.inr (Or.inr (Or.inr (Or.inr h))))))))))))
              exact hQ _ _ I_68 F_70 (by first | exact zTj_e (by assumption) (by assumption) | exact zTj_0 (by assumption))
          · refine k_M_endsThought I_59 (fun g62 I_72 F_73 b_71 => ?_)
            have F_74 : zk_fr fr_M_goes g g62 := zk_ft F_60 F_73 (fun a i => (fun h => Or.elim h (fun h => (Or.inl h)) (fun h => (Or.inr (Or.inr (Or.inr (Or.inr (Or.inr (Or.inr (Or.inr (Or.inr (Or.inr h))))))))))))
            have m_75 := zk_rng I_59 215 5
            exact hQ _ _ I_72 F_74 (by first | exact zTj_e (by assumption) (by assumption) | exact zTj_0 (by assumption))
        · refine k_M_endsThought I_59 (fun g66 I_77 F_78 b_76 => ?_)
          have F_79 : zk_fr fr_M_goes g g66 := zk_ft F_60 F_78 (fun a i => (fun h => Or.elim h (fun h => (Or.inl h)) (fun h => (Or.inr (Or.inr (Or.inr (Or.inr (Or.inr (Or.inr (Or.inr (Or.inr (Or.inr h))))))))))))
          have m_80 := zk_rng I_59 215 4
          exact hQ _ _ I_77 F_79 (by first | exact zTj_e (by assumption) (by assumption) | exact zTj_0 (by assumption))
      · exact hQ _ _ I_2 F_3 (by first | exact zTj_e (by assumption) (by assumption) | exact zTj_0 (by assumption))
-- SpoutNews.isWord(I)Z
set_option maxRecDepth 100000 in
set_option maxHeartbeats 4000000 in
theorem k_S_isWord {l0 : Int} {g : zi_M} {Q : Int → zi_M → Prop} (I : zk_I g) (p0 : (-2147483648) ≤ l0 ∧ l0 ≤ 2147483647) (hQ : ∀ v : Int, (l0 < 0 → v = 0) → (0 ≤ l0 → 16 ≤ l0 → v = 0) → (0 ≤ l0 → l0 < 16 → v = 1) → Q v g) : w_S_isWord l0 g Q := by
  unfold w_S_isWord
  refine ⟨⟨by omega, by omega⟩, ?_⟩
  refine ⟨fun c3 => ?_, fun c3 => ?_⟩
  · exact hQ _ (by intros; omega) (by intros; omega) (by intros; omega)
  · refine ⟨fun c2 => ?_, fun c2 => ?_⟩
    · exact hQ _ (by intros; omega) (by intros; omega) (by intros; omega)
    · exact hQ _ (by intros; omega) (by intros; omega) (by intros; omega)
-- SpoutNews$Thought.reach(LSpoutNews$Texts;I)I
theorem k_Thought_reach_l8 {g : zi_M} {q : Int} {K42 : Int → zi_M → Prop} {Q : Int → zi_M → Prop} (I : zk_I g) (hK : ∀ s : Int, ((-2147483648) ≤ s ∧ s ≤ 2147483647) → ((-1) ≤ q → q ≤ 9 → zeR (zeg g) q s) → K42 s g) :
    ∀ (n : Nat) (l3 l4 l5 : Int), (0 ≤ l5 ∧ l5 ≤ 10) → ((-2147483648) ≤ l3 ∧ l3 ≤ 2147483647) → ((-2147483648) ≤ l4 ∧ l4 ≤ 2147483647) → ((-1) ≤ q → q ≤ 9 → zRc (zeg g) q l5 l3 l4) → 10 - l5 < (n : Int) → w_Thought_reach_l8 K42 Q n l3 l4 l5 g
  | 0, l3, l4, l5, b0, b1, b2, b3, hm => by exfalso; omega
  | n + 1, l3, l4, l5, b0, b1, b2, b3, hm => by
    unfold w_Thought_reach_l8
    refine ⟨⟨by omega, by omega⟩, fun c10 => hK l3 b1 (fun a b => zRc_10 (b3 a b) (by omega)), fun c => ⟨b2, fun e => hK l3 b1 (fun a b => zRc_m (zeg_m g) b0.1 b0.2 (b3 a b) e), fun ne => ?_⟩⟩
    refine k_Texts_gutterOf I b2 (fun v3 d1 d2 d3 => ?_)
    have ev := zeg_v d1 d2 d3
    have vb := zeg_b I l4
    rw [← ev] at vb
    have r := zi_r_or l3 (zi_shl 1 l4)
    have r' : (-2147483648) ≤ zi_or l3 (zi_shl 1 l4) ∧ zi_or l3 (zi_shl 1 l4) ≤ 2147483647 := r
    refine k_Thought_reach_l8 I hK n _ _ _ ⟨by omega, by omega⟩ r' ⟨by omega, by omega⟩ (fun a b => ?_) (by omega)
    have z := b3 a b
    have lb := zit_B (zeg_b I) (p := q) ⟨by omega, b⟩ l5.toNat
    rw [← z.2.2] at lb
    exact zRc_s z b0.1 ⟨by omega, lb.2⟩ ev
theorem k_Thought_reach {l2 : Int} {g : zi_M} {Q : Int → zi_M → Prop} (I : zk_I g) (p2 : (-2147483648) ≤ l2 ∧ l2 ≤ 2147483647) (hQ : ∀ v : Int, ((-2147483648) ≤ v ∧ v ≤ 2147483647) → ((-1) ≤ l2 → l2 ≤ 9 → zeR (zeg g) l2 v) → Q v g) : w_Thought_reach l2 g Q := by
  unfold w_Thought_reach
  exact ⟨11, k_Thought_reach_l8 I (fun s hs h => hQ s hs h) 11 0 l2 0 ⟨by decide, by decide⟩ ⟨by decide, by decide⟩ p2 (fun _ _ => zRc_0) (by decide)⟩

-- SpoutNews$Thought.tellers(LSpoutNews$World;LSpoutNews$Texts;II)I
set_option maxRecDepth 100000 in
set_option maxHeartbeats 4000000 in
theorem k_Thought_tellers_l6 {g : zi_M} (I : zk_I g) {l3 : Int} {l4 : Int} {K66 : Int → zi_M → Prop} {Q : Int → zi_M → Prop} (q3 : (-2147483648) ≤ l3 ∧ l3 ≤ 2147483647) (q4 : (-2147483648) ≤ l4 ∧ l4 ≤ 2147483647) (hK66 : ∀ (k5 : Int), (0 ≤ k5 ∧ k5 ≤ 255) → (zTT g l3 l4 (g 2 11) k5) → K66 k5 g) (hQ : ∀ v : Int, (0 ≤ v ∧ v ≤ 255) → (zTT g l3 l4 (g 2 11) v) → Q v g) : ∀ (n : Nat) {l5 : Int} {l6 : Int}, (0 ≤ l5 ∧ l5 ≤ 255) → (0 ≤ l6 ∧ l6 ≤ 8) → (l6 ≤ g 2 11) → (zTT g l3 l4 l6 l5) → 8 - l6 < (n : Int) → w_Thought_tellers_l6 l3 l4 K66 Q n l5 l6 g
  | 0, l5, l6, b0, b1, b2, b3, hm => by exfalso; omega
  | n + 1, l5, l6, b0, b1, b2, b3, hm => by
    unfold w_Thought_tellers_l6
    have m_1 : 0 ≤ (g 2 11) ∧ (g 2 11) ≤ 8 := I.1 2 11
    refine ⟨⟨by omega, by omega⟩, ⟨by omega, by omega⟩, ?_⟩
    refine ⟨fun c9 => ?_, fun c9 => ?_⟩
    · exact hK66 _ ⟨by omega, by omega⟩ (by exact zTT_x (by assumption) (by omega))
    · refine ⟨⟨by omega, by omega⟩, ?_⟩
      have m_2 : (-2147483648) ≤ (g 10 l6) ∧ (g 10 l6) ≤ 2147483647 := I.1 10 l6
      have m_3 := zi_r_shr (g 10 l6) l3
      try have m_4 := (zi_shr_f (g 10 l6) l3).2 ⟨by omega, by omega⟩
      have m_5 := zi_r_and (zi_shr (g 10 l6) l3) 1
      try have m_6 := (zi_and_f (zi_shr (g 10 l6) l3) 1).2.1 ⟨by omega, by omega⟩
      try have m_7 := (zi_and_f (zi_shr (g 10 l6) l3) 1).2.2 ⟨by omega, by omega⟩
      refine ⟨fun c8 => ?_, fun c8 => ?_⟩
      · exact k_Thought_tellers_l6 I q3 q4 hK66 hQ n ⟨by omega, by omega⟩ ⟨by omega, by omega⟩ (by omega) (by first | exact zTT_4 I (by assumption) (by assumption) (by assumption) (by assumption) (by omega) | exact zTT_3 I (by assumption) (by assumption) (by assumption) | exact zTT_1 (by assumption) (by assumption) | exact zTT_0) (by omega)
      · have m_8 : (-1) ≤ (g 11 l6) ∧ (g 11 l6) ≤ 9 := I.1 11 l6
        refine k_Thought_reach I ⟨by omega, by omega⟩ (fun v4 b_9 b_10 => ?_)
        have m_11 := zi_r_shr v4 l4
        try have m_12 := (zi_shr_f v4 l4).2 ⟨by omega, by omega⟩
        have m_13 := zi_r_and (zi_shr v4 l4) 1
        try have m_14 := (zi_and_f (zi_shr v4 l4) 1).2.1 ⟨by omega, by omega⟩
        try have m_15 := (zi_and_f (zi_shr v4 l4) 1).2.2 ⟨by omega, by omega⟩
        refine ⟨fun c7 => ?_, fun c7 => ?_⟩
        · exact k_Thought_tellers_l6 I q3 q4 hK66 hQ n ⟨by omega, by omega⟩ ⟨by omega, by omega⟩ (by omega) (by first | exact zTT_4 I (by assumption) (by assumption) (by assumption) (by assumption) (by omega) | exact zTT_3 I (by assumption) (by assumption) (by assumption) | exact zTT_1 (by assumption) (by assumption) | exact zTT_0) (by omega)
        · have m_16 := zi_r_shl 1 l6
          try have m_17 := (zi_shl_f l6).2.1 ⟨by omega, by omega⟩
          first | have m_18 := (zi_shl_f l6).2.2.1 ⟨by omega, by omega⟩ | have m_19 := (zi_shl_f l6).2.2.2.1 ⟨by omega, by omega⟩ | have m_20 := (zi_shl_f l6).2.2.2.2.1 ⟨by omega, by omega⟩ | have m_21 := (zi_shl_f l6).2.2.2.2.2.1 ⟨by omega, by omega⟩ | have m_22 := (zi_shl_f l6).2.2.2.2.2.2 ⟨by omega, by omega⟩ | skip
          first | have m_23 := (zi_or_f l5 (zi_shl 1 l6)).2.1 ⟨by omega, by omega, by omega, by omega⟩ | have m_23 := (zi_or_f l5 (zi_shl 1 l6)).2.2.1 ⟨by omega, by omega, by omega, by omega⟩ | have m_23 := (zi_or_f l5 (zi_shl 1 l6)).2.2.2.1 ⟨by omega, by omega, by omega, by omega⟩ | have m_23 := (zi_or_f l5 (zi_shl 1 l6)).2.2.2.2.1 ⟨by omega, by omega, by omega, by omega⟩ | have m_23 := (zi_or_f l5 (zi_shl 1 l6)).2.2.2.2.2 ⟨by omega, by omega, by omega, by omega⟩ | have m_23 := zi_r_or l5 (zi_shl 1 l6)
          exact k_Thought_tellers_l6 I q3 q4 hK66 hQ n ⟨by omega, by omega⟩ ⟨by omega, by omega⟩ (by omega) (by first | exact zTT_4 I (by assumption) (by assumption) (by assumption) (by assumption) (by omega) | exact zTT_3 I (by assumption) (by assumption) (by assumption) | exact zTT_1 (by assumption) (by assumption) | exact zTT_0) (by omega)
set_option maxRecDepth 100000 in
set_option maxHeartbeats 4000000 in
theorem k_Thought_tellers {l3 : Int} {l4 : Int} {g : zi_M} {Q : Int → zi_M → Prop} (I : zk_I g) (p3 : (-2147483648) ≤ l3 ∧ l3 ≤ 2147483647) (p4 : (-2147483648) ≤ l4 ∧ l4 ≤ 2147483647) (hQ : ∀ v : Int, (0 ≤ v ∧ v ≤ 255) → (zTT g l3 l4 (g 2 11) v) → Q v g) : w_Thought_tellers l3 l4 g Q := by
  unfold w_Thought_tellers
  have m_26 : 0 ≤ (g 2 11) ∧ (g 2 11) ≤ 8 := I.1 2 11
  refine ⟨((8 - 0 : Int).toNat + 1), k_Thought_tellers_l6 (l3 := l3) (l4 := l4) I ⟨by omega, by omega⟩ ⟨by omega, by omega⟩ (fun k10 b_24 b_25 => ?_) hQ ((8 - 0 : Int).toNat + 1) ⟨by omega, by omega⟩ ⟨by omega, by omega⟩ (by omega) (by first | exact zTT_4 I (by assumption) (by assumption) (by assumption) (by assumption) (by omega) | exact zTT_3 I (by assumption) (by assumption) (by assumption) | exact zTT_1 (by assumption) (by assumption) | exact zTT_0) (by omega)⟩
  exact hQ _ ⟨by omega, by omega⟩ (by assumption)
-- SpoutNews.told(II)I
set_option maxRecDepth 100000 in
set_option maxHeartbeats 4000000 in
theorem k_S_told {l1 : Int} {l2 : Int} {g : zi_M} {Q : Int → zi_M → Prop} (I : zk_I g) (p1 : (-2147483648) ≤ l1 ∧ l1 ≤ 2147483647) (p2 : (-2147483648) ≤ l2 ∧ l2 ≤ 2147483647) (hQ : ∀ v : Int, ((-1) ≤ v ∧ v ≤ 255) → (0 ≤ l1 ∧ l1 ≤ 15 ∧ 0 ≤ l2 ∧ l2 < g 2 8 → zTT g l1 l2 (g 2 11) v) → (¬ (0 ≤ l1 ∧ l1 ≤ 15 ∧ 0 ≤ l2 ∧ l2 < g 2 8) → v = -1) → Q v g) : w_S_told l1 l2 g Q := by
  unfold w_S_told
  refine k_S_isWord I ⟨by omega, by omega⟩ (fun v1 b_1 b_2 b_3 => ?_)
  refine ⟨fun c11 => ?_, fun c11 => ?_⟩
  · exact hQ _ ⟨by omega, by omega⟩ (by first | (intro hv; assumption) | (intro hv; exfalso; omega)) (by first | (intro hv; rfl) | (intro hv; exfalso; omega))
  · have m_7 : 0 ≤ (g 2 8) ∧ (g 2 8) ≤ 10 := I.1 2 8
    refine k_World_isSpout rfl I ⟨by omega, by omega⟩ (fun v4 b_4 b_5 b_6 => ?_)
    try simp only [Nat.reduceAdd] at b_4 b_5 b_6
    refine ⟨fun c10 => ?_, fun c10 => ?_⟩
    · have m_8 : 0 ≤ (g 2 11) ∧ (g 2 11) ≤ 8 := I.1 2 11
      refine k_Thought_tellers I ⟨by omega, by omega⟩ ⟨by omega, by omega⟩ (fun v7 b_9 b_10 => ?_)
      exact hQ _ ⟨by omega, by omega⟩ (by first | (intro hv; assumption) | (intro hv; exfalso; omega)) (by first | (intro hv; rfl) | (intro hv; exfalso; omega))
    · exact hQ _ ⟨by omega, by omega⟩ (by first | (intro hv; assumption) | (intro hv; exfalso; omega)) (by first | (intro hv; rfl) | (intro hv; exfalso; omega))
-- SpoutNewsModel.passedFrom(I)I
theorem k_M_passedFrom_l4 {g : zi_M} {p : Int} {K33 : Int → zi_M → Prop} {Q : Int → zi_M → Prop} (I : zk_I g) (hK : ∀ s : Int, (0 ≤ s ∧ s ≤ 1023) → zMp (zf g) p s → K33 s g) :
    ∀ (n : Nat) (l2 l3 : Int), (0 ≤ l2 ∧ l2 ≤ 1023) → ((-1) ≤ l3 ∧ l3 ≤ 9) → zMi (zf g) p l2 l3 → 1023 - l2 < (n : Int) → w_M_passedFrom_l4 K33 Q n l2 l3 g
  | 0, l2, l3, b0, b1, b2, hm => by exfalso; omega
  | n + 1, l2, l3, b0, b1, b2, hm => by
    unfold w_M_passedFrom_l4
    refine ⟨⟨by omega, by omega⟩, fun c9 => hK l2 b0 (zMi_e b2 c9), fun c9 => ?_⟩
    refine k_M_has I ⟨by omega, by omega⟩ ⟨by omega, by omega⟩ (fun v2 b_1 b_2 => ⟨fun c8 => hK l2 b0 (zMi_h b2 b1 c9 b_1 c8), fun c8 => ?_⟩)
    have m_9 : 0 ≤ (g 232 (l3)) ∧ (g 232 (l3)) ≤ 10 := I.1 232 (l3)
    refine k_M_into I ⟨by omega, by omega⟩ (fun v5 b_8 => ?_)
    have z := zMi_s (v := v5) b2 c9 b1 (by rw [b_8]; rfl)
    have m_5 := zi_r_and (zi_shr l2 l3) 1
    try have m_6 := (zi_and_f (zi_shr l2 l3) 1).2.1 ⟨by omega, by omega⟩
    try have m_7 := (zi_and_f (zi_shr l2 l3) 1).2.2 ⟨by omega, by omega⟩
    have m_10 := zi_r_shl 1 l3
    try have m_11 := (zi_shl_f l3).2.1 ⟨by omega, by omega⟩
    first | have m_12 := (zi_shl_f l3).2.2.1 ⟨by omega, by omega⟩ | have m_13 := (zi_shl_f l3).2.2.2.1 ⟨by omega, by omega⟩ | have m_14 := (zi_shl_f l3).2.2.2.2.1 ⟨by omega, by omega⟩ | have m_15 := (zi_shl_f l3).2.2.2.2.2.1 ⟨by omega, by omega⟩ | have m_16 := (zi_shl_f l3).2.2.2.2.2.2 ⟨by omega, by omega⟩ | skip
    have m_17 := (zi_or_f l2 (zi_shl 1 l3)).2.2.2.1 ⟨by omega, by omega, by omega, by omega⟩
    have m_18 := zi_or_new (s := l2) (k := l3) ⟨by omega, by omega⟩ ⟨by omega, by omega⟩ (by omega)
    exact k_M_passedFrom_l4 I hK n _ _ ⟨by omega, by omega⟩ ⟨by omega, by omega⟩ z (by omega)
theorem k_M_passedFrom {l1 : Int} {g : zi_M} {Q : Int → zi_M → Prop} (I : zk_I g) (p1 : 0 ≤ l1 ∧ l1 ≤ 9) (hQ : ∀ v : Int, (0 ≤ v ∧ v ≤ 1023) → (zMp (zf g) l1 v) → Q v g) : w_M_passedFrom l1 g Q := by
  unfold w_M_passedFrom
  exact ⟨1024, k_M_passedFrom_l4 I (fun s hs h => hQ s hs h) 1024 0 l1 ⟨by decide, by decide⟩ ⟨by omega, by omega⟩ zMi_0 (by decide)⟩

-- SpoutNewsModel.told(II)I
set_option maxRecDepth 100000 in
set_option maxHeartbeats 4000000 in
theorem k_M_told_l31 {l1 : Int} {l2 : Int} {K111 : Int → zi_M → Prop} {Q : Int → zi_M → Prop} {g0 : zi_M} (q1 : (-2147483648) ≤ l1 ∧ l1 ≤ 2147483647) (q2 : (-2147483648) ≤ l2 ∧ l2 ≤ 2147483647) (hK111 : ∀ (k3 : Int) (g : zi_M), zk_I g → zk_fr fr_M_told g0 g → (0 ≤ k3 ∧ k3 ≤ 255) → (zTM g l1 l2 (g 214 7) k3) → K111 k3 g) (hQ : ∀ (v : Int) (g' : zi_M), zk_I g' → zk_fr fr_M_told g0 g' → ((-1) ≤ v ∧ v ≤ 255) → (0 ≤ l1 ∧ l1 ≤ 15 ∧ 0 ≤ l2 ∧ l2 < g0 214 6 → zTM g' l1 l2 (g' 214 7) v) → (¬ (0 ≤ l1 ∧ l1 ≤ 15 ∧ 0 ≤ l2 ∧ l2 < g0 214 6) → v = -1) → Q v g') : ∀ (n : Nat) {l3 : Int} {l4 : Int} {g : zi_M}, zk_I g → zk_fr fr_M_told g0 g → (0 ≤ l3 ∧ l3 ≤ 255) → (0 ≤ l4 ∧ l4 ≤ 8) → (l4 ≤ g 214 7) → (zTM g l1 l2 l4 l3) → 8 - l4 < (n : Int) → w_M_told_l31 l1 l2 K111 Q n l3 l4 g
  | 0, l3, l4, g, I, F, b0, b1, b2, b3, hm => by exfalso; omega
  | n + 1, l3, l4, g, I, F, b0, b1, b2, b3, hm => by
    unfold w_M_told_l31
    have m_16 : 0 ≤ (g 214 7) ∧ (g 214 7) ≤ 8 := I.1 214 7
    refine ⟨⟨by omega, by omega⟩, ⟨by omega, by omega⟩, ?_⟩
    refine ⟨fun c25 => ?_, fun c25 => ?_⟩
    · exact hK111 _ _ I F ⟨by omega, by omega⟩ (by exact zTM_x (by assumption) (by omega))
    · refine ⟨⟨by omega, by omega⟩, ?_⟩
      have m_17 := zk_rng I 215 (236 + l4)
      have m_20 := zi_r_shr ((g 215 (236 + l4))) (l1)
      try have m_21 := (zi_shr_f ((g 215 (236 + l4))) (l1)).2 ⟨by omega, by omega⟩
      have m_22 := zi_r_and (zi_shr (g 215 (236 + l4)) l1) 1
      try have m_23 := (zi_and_f (zi_shr (g 215 (236 + l4)) l1) 1).2.1 ⟨by omega, by omega⟩
      try have m_24 := (zi_and_f (zi_shr (g 215 (236 + l4)) l1) 1).2.2 ⟨by omega, by omega⟩
      refine k_M_has I ⟨by omega, by omega⟩ ⟨by omega, by omega⟩ (fun v11 b_18 b_19 => ?_)
      refine ⟨fun c24 => ?_, fun c24 => ?_⟩
      · exact k_M_told_l31 q1 q2 hK111 hQ n I F ⟨by omega, by omega⟩ ⟨by omega, by omega⟩ (by omega) (by first | exact zTM_4 (by assumption) (by assumption) (by assumption) (by assumption) (by assumption) (by assumption) (by assumption) (by omega) | exact zTM_3 (by assumption) (by assumption) (by assumption) (by assumption) | exact zTM_2 (by assumption) (by assumption) | exact zTM_1 (by assumption) (by assumption) (by assumption) | exact zTM_0) (by omega)
      · refine ⟨⟨by omega, by omega⟩, ?_⟩
        have m_25 := zk_now244 I (i := (244 + l4)) (by omega)
        refine ⟨⟨by omega, by omega⟩, ?_⟩
        refine ⟨fun c23 => ?_, fun c23 => ?_⟩
        · exact k_M_told_l31 q1 q2 hK111 hQ n I F ⟨by omega, by omega⟩ ⟨by omega, by omega⟩ (by omega) (by first | exact zTM_4 (by assumption) (by assumption) (by assumption) (by assumption) (by assumption) (by assumption) (by assumption) (by omega) | exact zTM_3 (by assumption) (by assumption) (by assumption) (by assumption) | exact zTM_2 (by assumption) (by assumption) | exact zTM_1 (by assumption) (by assumption) (by assumption) | exact zTM_0) (by omega)
        · refine k_M_passedFrom I ⟨by omega, by omega⟩ (fun v16 b_26 b_27 => ?_)
          have m_30 := zi_r_shr (v16) (l2)
          try have m_31 := (zi_shr_f (v16) (l2)).2 ⟨by omega, by omega⟩
          have m_32 := zi_r_and (zi_shr v16 l2) 1
          try have m_33 := (zi_and_f (zi_shr v16 l2) 1).2.1 ⟨by omega, by omega⟩
          try have m_34 := (zi_and_f (zi_shr v16 l2) 1).2.2 ⟨by omega, by omega⟩
          refine k_M_has I ⟨by omega, by omega⟩ ⟨by omega, by omega⟩ (fun v19 b_28 b_29 => ?_)
          refine ⟨fun c22 => ?_, fun c22 => ?_⟩
          · exact k_M_told_l31 q1 q2 hK111 hQ n I F ⟨by omega, by omega⟩ ⟨by omega, by omega⟩ (by omega) (by first | exact zTM_4 (by assumption) (by assumption) (by assumption) (by assumption) (by assumption) (by assumption) (by assumption) (by omega) | exact zTM_3 (by assumption) (by assumption) (by assumption) (by assumption) | exact zTM_2 (by assumption) (by assumption) | exact zTM_1 (by assumption) (by assumption) (by assumption) | exact zTM_0) (by omega)
          · have m_35 := zi_r_shl 1 l4
            try have m_36 := (zi_shl_f l4).2.1 ⟨by omega, by omega⟩
            first | have m_37 := (zi_shl_f l4).2.2.1 ⟨by omega, by omega⟩ | have m_38 := (zi_shl_f l4).2.2.2.1 ⟨by omega, by omega⟩ | have m_39 := (zi_shl_f l4).2.2.2.2.1 ⟨by omega, by omega⟩ | have m_40 := (zi_shl_f l4).2.2.2.2.2.1 ⟨by omega, by omega⟩ | have m_41 := (zi_shl_f l4).2.2.2.2.2.2 ⟨by omega, by omega⟩ | skip
            first | have m_42 := (zi_or_f l3 (zi_shl 1 l4)).2.1 ⟨by omega, by omega, by omega, by omega⟩ | have m_42 := (zi_or_f l3 (zi_shl 1 l4)).2.2.1 ⟨by omega, by omega, by omega, by omega⟩ | have m_42 := (zi_or_f l3 (zi_shl 1 l4)).2.2.2.1 ⟨by omega, by omega, by omega, by omega⟩ | have m_42 := (zi_or_f l3 (zi_shl 1 l4)).2.2.2.2.1 ⟨by omega, by omega, by omega, by omega⟩ | have m_42 := (zi_or_f l3 (zi_shl 1 l4)).2.2.2.2.2 ⟨by omega, by omega, by omega, by omega⟩ | have m_42 := zi_r_or l3 (zi_shl 1 l4)
            exact k_M_told_l31 q1 q2 hK111 hQ n I F ⟨by omega, by omega⟩ ⟨by omega, by omega⟩ (by omega) (by first | exact zTM_4 (by assumption) (by assumption) (by assumption) (by assumption) (by assumption) (by assumption) (by assumption) (by omega) | exact zTM_3 (by assumption) (by assumption) (by assumption) (by assumption) | exact zTM_2 (by assumption) (by assumption) | exact zTM_1 (by assumption) (by assumption) (by assumption) | exact zTM_0) (by omega)
set_option maxRecDepth 100000 in
set_option maxHeartbeats 4000000 in
theorem k_M_told {l1 : Int} {l2 : Int} {g : zi_M} {Q : Int → zi_M → Prop} (I : zk_I g) (p1 : (-2147483648) ≤ l1 ∧ l1 ≤ 2147483647) (p2 : (-2147483648) ≤ l2 ∧ l2 ≤ 2147483647) (hQ : ∀ (v : Int) (g' : zi_M), zk_I g' → zk_fr fr_M_told g g' → ((-1) ≤ v ∧ v ≤ 255) → (0 ≤ l1 ∧ l1 ≤ 15 ∧ 0 ≤ l2 ∧ l2 < g 214 6 → zTM g' l1 l2 (g' 214 7) v) → (¬ (0 ≤ l1 ∧ l1 ≤ 15 ∧ 0 ≤ l2 ∧ l2 < g 214 6) → v = -1) → Q v g') : w_M_told l1 l2 g Q := by
  unfold w_M_told
  intro g1 e_1
  have I_2 : zk_I g1 := by rw [e_1]; exact zk_upd (L := (-2147483648)) (H := 2147483647) rfl rfl I ⟨by omega, by omega⟩
  have F_3 : zk_fr fr_M_told g g1 := by rw [e_1]; exact zk_fu (zk_f0 _) ⟨rfl, rfl⟩
  refine k_M_isIn I_2 ⟨by omega, by omega⟩ ⟨by omega, by omega⟩ ⟨by omega, by omega⟩ (fun v2 b_4 b_5 b_6 => ?_)
  refine ⟨fun c30 => ?_, fun c30 => ?_⟩
  · have m_7 : 0 ≤ (g1 214 7) ∧ (g1 214 7) ≤ 8 := I_2.1 214 7
    have m_8 : g1 214 7 = g 214 7 := by rw [e_1]; exact zi_u_ni (by decide)
    have m_9 : 0 ≤ (g 214 7) ∧ (g 214 7) ≤ 8 := I.1 214 7
    exact hQ _ _ I_2 F_3 ⟨by omega, by omega⟩ (by first | (intro hv; assumption) | (intro hv; exfalso; omega)) (by first | (intro hv; rfl) | (intro hv; exfalso; omega))
  · have m_13 : 0 ≤ (g1 214 6) ∧ (g1 214 6) ≤ 10 := I_2.1 214 6
    have m_14 : g1 214 6 = g 214 6 := by rw [e_1]; exact zi_u_ni (by decide)
    have m_15 : 0 ≤ (g 214 6) ∧ (g 214 6) ≤ 10 := I.1 214 6
    refine k_M_isSpout I_2 ⟨by omega, by omega⟩ (fun v5 b_10 b_11 b_12 => ?_)
    refine ⟨fun c29 => ?_, fun c29 => ?_⟩
    · have m_48 : 0 ≤ (g1 214 7) ∧ (g1 214 7) ≤ 8 := I_2.1 214 7
      have m_49 : g1 214 7 = g 214 7 := by rw [e_1]; exact zi_u_ni (by decide)
      have m_50 : 0 ≤ (g 214 7) ∧ (g 214 7) ≤ 8 := I.1 214 7
      refine ⟨((8 - 0 : Int).toNat + 1), k_M_told_l31 (l1 := l1) (l2 := l2) ⟨by omega, by omega⟩ ⟨by omega, by omega⟩ (fun k26 g27 I_43 F_44 b_45 b_46 => ?_) hQ ((8 - 0 : Int).toNat + 1) I_2 F_3 ⟨by omega, by omega⟩ ⟨by omega, by omega⟩ (by omega) (by first | exact zTM_4 (by assumption) (by assumption) (by assumption) (by assumption) (by assumption) (by assumption) (by assumption) (by omega) | exact zTM_3 (by assumption) (by assumption) (by assumption) (by assumption) | exact zTM_2 (by assumption) (by assumption) | exact zTM_1 (by assumption) (by assumption) (by assumption) | exact zTM_0) (by omega)⟩
      have m_47 : 0 ≤ (g27 214 7) ∧ (g27 214 7) ≤ 8 := I_43.1 214 7
      exact hQ _ _ I_43 F_44 ⟨by omega, by omega⟩ (by first | (intro hv; assumption) | (intro hv; exfalso; omega)) (by first | (intro hv; rfl) | (intro hv; exfalso; omega))
    · have m_51 : 0 ≤ (g1 214 7) ∧ (g1 214 7) ≤ 8 := I_2.1 214 7
      have m_52 : g1 214 7 = g 214 7 := by rw [e_1]; exact zi_u_ni (by decide)
      have m_53 : 0 ≤ (g 214 7) ∧ (g 214 7) ≤ 8 := I.1 214 7
      exact hQ _ _ I_2 F_3 ⟨by omega, by omega⟩ (by first | (intro hv; assumption) | (intro hv; exfalso; omega)) (by first | (intro hv; rfl) | (intro hv; exfalso; omega))
