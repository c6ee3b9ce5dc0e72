-- by program (wip/gen/mkz.py)
-- SpoutNewsModel.of(II)I
set_option maxRecDepth 100000 in
set_option maxHeartbeats 4000000 in
theorem k_M_of {l1 : Int} {l2 : Int} {g : zi_M} {Q : Int → zi_M → Prop} (I : zk_I g) (p1 : (-2147483648) ≤ l1 ∧ l1 ≤ 2147483647) (p2 : (-2147483648) ≤ l2 ∧ l2 ≤ 2147483647) (hQ : ∀ (v : Int) (g' : zi_M), zk_I g' → zk_fr fr_M_of g g' → ((-2147483648) ≤ v ∧ v ≤ 2147483647) → Q v g') : w_M_of l1 l2 g Q := by
  unfold w_M_of
  intro g1 e_1
  have I_2 : zk_I g1 := by rw [e_1]; exact zk_upd (L := (-2147483648)) (H := 2147483647) rfl rfl I ⟨by omega, by omega⟩
  have F_3 : zk_fr fr_M_of g g1 := by rw [e_1]; exact zk_fu (zk_f0 _) (Or.inr (Or.inr ⟨rfl, rfl⟩))
  have m_7 : 0 ≤ (g1 214 6) ∧ (g1 214 6) ≤ 10 := I_2.1 214 6
  have m_8 : g1 214 6 = g 214 6 := by rw [e_1]; exact zi_u_ni (by decide)
  have m_9 : 0 ≤ (g 214 6) ∧ (g 214 6) ≤ 10 := I.1 214 6
  refine k_M_isSpout I_2 ⟨by omega, by omega⟩ (fun v2 b_4 b_5 b_6 => ?_)
  refine ⟨fun c44 => ?_, fun c44 => ?_⟩
  · refine ⟨⟨by omega, by omega⟩, ?_⟩
    have m_10 := zk_now26 I_2 (i := (26 + l1)) (by omega)
    have m_11 : g1 215 (26 + l1) = g 215 (26 + l1) := by rw [e_1]; exact zi_u_ne (by decide)
    have m_12 := zk_now26 I (i := (26 + l1)) (by omega)
    refine k_M_isIn I_2 ⟨by omega, by omega⟩ ⟨by omega, by omega⟩ ⟨by omega, by omega⟩ (fun v6 b_13 b_14 b_15 => ?_)
    refine ⟨fun c43 => ?_, fun c43 => ?_⟩
    · refine k_M_isIn I_2 ⟨by omega, by omega⟩ ⟨by omega, by omega⟩ ⟨by omega, by omega⟩ (fun v9 b_16 b_17 b_18 => ?_)
      refine ⟨fun c39 => ?_, fun c39 => ?_⟩
      · refine ⟨⟨by omega, by omega⟩, ?_⟩
        refine ⟨fun c35 => ?_, fun c35 => ?_⟩
        · refine ⟨fun c33 => ?_, fun c33 => ?_⟩
          · refine ⟨fun c31 => ?_, fun c31 => ?_⟩
            · refine ⟨fun c29 => ?_, fun c29 => ?_⟩
              · refine ⟨fun c27 => ?_, fun c27 => ?_⟩
                · refine ⟨fun c26 => ?_, fun c26 => ?_⟩
                  · refine ⟨fun c24 => ?_, fun c24 => ?_⟩
                    · refine ⟨fun c20 => ?_, fun c20 => ?_⟩
                      · refine ⟨fun c16 => ?_, fun c16 => ?_⟩
                        · exact hQ _ _ I_2 F_3 ⟨by omega, by omega⟩
                        · refine k_M_jetOf I_2 ⟨by omega, by omega⟩ (fun v13 g14 I_20 F_21 b_19 => ?_)
                          have F_22 : zk_fr fr_M_of g g14 := zk_ft F_3 F_21 (fun a i => (fun h => Or.elim h (fun h => (Or.inl h)) (fun h => (Or.inr (Or.inl h)))))
                          exact hQ _ _ I_20 F_22 ⟨by omega, by omega⟩
                      · refine k_M_hearsOf I_2 ⟨by omega, by omega⟩ (fun v17 g18 I_24 F_25 b_23 => ?_)
                        have F_26 : zk_fr fr_M_of g g18 := zk_ft F_3 F_25 (fun a i => (fun h => Or.elim h (fun h => (Or.inl h)) (fun h => (Or.inr (Or.inl h)))))
                        exact hQ _ _ I_24 F_26 ⟨by omega, by omega⟩
                    · have m_28 : 0 ≤ (g1 232 (l1)) ∧ (g1 232 (l1)) ≤ 10 := I_2.1 232 (l1)
                      have m_29 : g1 232 (l1) = g 232 (l1) := by rw [e_1]; exact zi_u_ne (by decide)
                      have m_30 : 0 ≤ (g 232 (l1)) ∧ (g 232 (l1)) ≤ 10 := I.1 232 (l1)
                      refine k_M_into I_2 ⟨by omega, by omega⟩ (fun v21 b_27 => ?_)
                      exact hQ _ _ I_2 F_3 ⟨by omega, by omega⟩
                  · refine ⟨⟨by omega, by omega⟩, ?_⟩
                    have m_31 := zk_now16 I_2 (i := (16 + l1)) (by omega)
                    have m_32 : g1 215 (16 + l1) = g 215 (16 + l1) := by rw [e_1]; exact zi_u_ne (by decide)
                    have m_33 := zk_now16 I (i := (16 + l1)) (by omega)
                    exact hQ _ _ I_2 F_3 ⟨by omega, by omega⟩
                · exact hQ _ _ I_2 F_3 ⟨by omega, by omega⟩
              · refine ⟨⟨by omega, by omega⟩, ?_⟩
                have m_34 := zk_now6 I_2 (i := (6 + l1)) (by omega)
                have m_35 : g1 215 (6 + l1) = g 215 (6 + l1) := by rw [e_1]; exact zi_u_ne (by decide)
                have m_36 := zk_now6 I (i := (6 + l1)) (by omega)
                exact hQ _ _ I_2 F_3 ⟨by omega, by omega⟩
            · refine ⟨⟨by omega, by omega⟩, ?_⟩
              have m_37 : 0 ≤ (g1 220 l1) ∧ (g1 220 l1) ≤ 99 := I_2.1 220 l1
              have m_38 : g1 220 l1 = g 220 l1 := by rw [e_1]; exact zi_u_ne (by decide)
              have m_39 : 0 ≤ (g 220 l1) ∧ (g 220 l1) ≤ 99 := I.1 220 l1
              exact hQ _ _ I_2 F_3 ⟨by omega, by omega⟩
          · refine ⟨⟨by omega, by omega⟩, ?_⟩
            have m_40 : 0 ≤ (g1 219 l1) ∧ (g1 219 l1) ≤ 3 := I_2.1 219 l1
            have m_41 : g1 219 l1 = g 219 l1 := by rw [e_1]; exact zi_u_ne (by decide)
            have m_42 : 0 ≤ (g 219 l1) ∧ (g 219 l1) ≤ 3 := I.1 219 l1
            exact hQ _ _ I_2 F_3 ⟨by omega, by omega⟩
        · refine ⟨⟨by omega, by omega⟩, ?_⟩
          have m_43 : 0 ≤ (g1 218 l1) ∧ (g1 218 l1) ≤ 5 := I_2.1 218 l1
          have m_44 : g1 218 l1 = g 218 l1 := by rw [e_1]; exact zi_u_ne (by decide)
          have m_45 : 0 ≤ (g 218 l1) ∧ (g 218 l1) ≤ 5 := I.1 218 l1
          exact hQ _ _ I_2 F_3 ⟨by omega, by omega⟩
      · refine k_M_slipOf I_2 ⟨by omega, by omega⟩ ⟨by omega, by omega⟩ (fun v36 g37 I_47 F_48 b_46 => ?_)
        have F_49 : zk_fr fr_M_of g g37 := zk_ft F_3 F_48 (fun a i => (fun h => Or.elim h (fun h => (Or.inl h)) (fun h => (Or.inr (Or.inl h)))))
        exact hQ _ _ I_47 F_49 ⟨by omega, by omega⟩
    · have m_51 := zk_now36 I_2 (i := ((36 + (20 * l1)) + (l2 - 20))) (by omega)
      have m_52 : g1 215 ((36 + (20 * l1)) + (l2 - 20)) = g 215 ((36 + (20 * l1)) + (l2 - 20)) := by rw [e_1]; exact zi_u_ne (by decide)
      have m_53 := zk_now36 I (i := ((36 + (20 * l1)) + (l2 - 20))) (by omega)
      refine k_M_heardAt I_2 ⟨by omega, by omega⟩ ⟨by omega, by omega⟩ (fun v40 b_50 => ?_)
      exact hQ _ _ I_2 F_3 ⟨by omega, by omega⟩
  · exact hQ _ _ I_2 F_3 ⟨by omega, by omega⟩
-- SpoutNews.who(II)I
set_option maxRecDepth 100000 in
set_option maxHeartbeats 4000000 in
theorem k_S_who {l1 : Int} {l2 : Int} {g : zi_M} {Q : Int → zi_M → Prop} (I : zk_I g) (p1 : (-2147483648) ≤ l1 ∧ l1 ≤ 2147483647) (p2 : (-2147483648) ≤ l2 ∧ l2 ≤ 2147483647) (hQ : ∀ v : Int, (l1 < 0 → v = (-2)) → (0 ≤ l1 → (g 2 11) ≤ l1 → v = (-2)) → (0 ≤ l1 → l1 < (g 2 11) → (l2 = 0) → v = g 10 l1) → (0 ≤ l1 → l1 < (g 2 11) → (l2 = 1) → v = g 11 l1) → (0 ≤ l1 → l1 < (g 2 11) → ¬ l2 = 0 → ¬ l2 = 1 → v = (-2)) → Q v g) : w_S_who l1 l2 g Q := by
  unfold w_S_who
  have m_4 : 0 ≤ (g 2 11) ∧ (g 2 11) ≤ 8 := I.1 2 11
  refine k_World_isSitter I ⟨by omega, by omega⟩ (fun v1 b_1 b_2 b_3 => ?_)
  refine ⟨fun c8 => ?_, fun c8 => ?_⟩
  · refine ⟨⟨by omega, by omega⟩, ?_⟩
    refine ⟨fun c5_0 c5_1 => ?_, fun c5 => ?_, fun c5 => ?_⟩
    · have m_5 : (-2147483648) ≤ (g 10 l1) ∧ (g 10 l1) ≤ 2147483647 := I.1 10 l1
      have m_6 : (-1) ≤ (g 11 l1) ∧ (g 11 l1) ≤ 9 := I.1 11 l1
      exact hQ _ (by intros; omega) (by intros; omega) (by intros; omega) (by intros; omega) (by intros; omega)
    · refine ⟨⟨by omega, by omega⟩, ?_⟩
      have m_7 : (-2147483648) ≤ (g 10 l1) ∧ (g 10 l1) ≤ 2147483647 := I.1 10 l1
      have m_8 : (-1) ≤ (g 11 l1) ∧ (g 11 l1) ≤ 9 := I.1 11 l1
      exact hQ _ (by intros; omega) (by intros; omega) (by intros; omega) (by intros; omega) (by intros; omega)
    · refine ⟨⟨by omega, by omega⟩, ?_⟩
      have m_9 : (-1) ≤ (g 11 l1) ∧ (g 11 l1) ≤ 9 := I.1 11 l1
      have m_10 : (-2147483648) ≤ (g 10 l1) ∧ (g 10 l1) ≤ 2147483647 := I.1 10 l1
      exact hQ _ (by intros; omega) (by intros; omega) (by intros; omega) (by intros; omega) (by intros; omega)
  · have m_11 : (-2147483648) ≤ (g 10 l1) ∧ (g 10 l1) ≤ 2147483647 := I.1 10 l1
    have m_12 : (-1) ≤ (g 11 l1) ∧ (g 11 l1) ≤ 9 := I.1 11 l1
    exact hQ _ (by intros; omega) (by intros; omega) (by intros; omega) (by intros; omega) (by intros; omega)
-- SpoutNewsModel.who(II)I
set_option maxRecDepth 100000 in
set_option maxHeartbeats 4000000 in
theorem k_M_who {l1 : Int} {l2 : Int} {g : zi_M} {Q : Int → zi_M → Prop} (I : zk_I g) (p1 : (-2147483648) ≤ l1 ∧ l1 ≤ 2147483647) (p2 : (-2147483648) ≤ l2 ∧ l2 ≤ 2147483647) (hQ : ∀ (v : Int) (g' : zi_M), zk_I g' → zk_fr fr_M_who g g' → ((-2147483649) ≤ v ∧ v ≤ 2147483647) → Q v g') : w_M_who l1 l2 g Q := by
  unfold w_M_who
  intro g1 e_1
  have I_2 : zk_I g1 := by rw [e_1]; exact zk_upd (L := (-2147483648)) (H := 2147483647) rfl rfl I ⟨by omega, by omega⟩
  have F_3 : zk_fr fr_M_who g g1 := by rw [e_1]; exact zk_fu (zk_f0 _) ⟨rfl, rfl⟩
  have m_7 : 0 ≤ (g1 214 7) ∧ (g1 214 7) ≤ 8 := I_2.1 214 7
  have m_8 : g1 214 7 = g 214 7 := by rw [e_1]; exact zi_u_ni (by decide)
  have m_9 : 0 ≤ (g 214 7) ∧ (g 214 7) ≤ 8 := I.1 214 7
  refine k_M_isSitter I_2 ⟨by omega, by omega⟩ (fun v2 b_4 b_5 b_6 => ?_)
  refine ⟨fun c10 => ?_, fun c10 => ?_⟩
  · refine ⟨⟨by omega, by omega⟩, ?_⟩
    refine ⟨fun c9 => ?_, fun c9 => ?_⟩
    · refine ⟨fun c7 => ?_, fun c7 => ?_⟩
      · exact hQ _ _ I_2 F_3 ⟨by omega, by omega⟩
      · refine ⟨⟨by omega, by omega⟩, ?_⟩
        have m_10 := zk_now244 I_2 (i := (244 + l1)) (by omega)
        have m_11 : g1 215 (244 + l1) = g 215 (244 + l1) := by rw [e_1]; exact zi_u_ne (by decide)
        have m_12 := zk_now244 I (i := (244 + l1)) (by omega)
        exact hQ _ _ I_2 F_3 ⟨by omega, by omega⟩
    · refine ⟨⟨by omega, by omega⟩, ?_⟩
      have m_13 := zk_rng I_2 215 (236 + l1)
      have m_14 : g1 215 (236 + l1) = g 215 (236 + l1) := by rw [e_1]; exact zi_u_ne (by decide)
      have m_15 := zk_rng I 215 (236 + l1)
      exact hQ _ _ I_2 F_3 ⟨by omega, by omega⟩
  · exact hQ _ _ I_2 F_3 ⟨by omega, by omega⟩
-- SpoutNews.jar(II)I
set_option maxRecDepth 100000 in
set_option maxHeartbeats 4000000 in
theorem k_S_jar {l1 : Int} {l2 : Int} {g : zi_M} {Q : Int → zi_M → Prop} (I : zk_I g) (p1 : (-2147483648) ≤ l1 ∧ l1 ≤ 2147483647) (p2 : (-2147483648) ≤ l2 ∧ l2 ≤ 2147483647) (hQ : ∀ v : Int, (l1 < 0 → v = (-2)) → (0 ≤ l1 → l1 < 6 → (l2 = 0) → v = g 12 l1) → (0 ≤ l1 → l1 < 6 → (l2 = 1) → v = g 13 l1) → (0 ≤ l1 → l1 < 6 → ¬ l2 = 0 → ¬ l2 = 1 → v = (-2)) → (0 ≤ l1 → 6 ≤ l1 → v = (-2)) → Q v g) : w_S_jar l1 l2 g Q := by
  unfold w_S_jar
  refine ⟨⟨by omega, by omega⟩, ?_⟩
  refine ⟨fun c7 => ?_, fun c7 => ?_⟩
  · have m_1 : (-1) ≤ (g 12 l1) ∧ (g 12 l1) ≤ 9 := I.1 12 l1
    have m_2 : (-2147483648) ≤ (g 13 l1) ∧ (g 13 l1) ≤ 2147483647 := I.1 13 l1
    exact hQ _ (by intros; omega) (by intros; omega) (by intros; omega) (by intros; omega) (by intros; omega)
  · refine ⟨fun c6 => ?_, fun c6 => ?_⟩
    · refine ⟨⟨by omega, by omega⟩, ?_⟩
      refine ⟨fun c3_0 c3_1 => ?_, fun c3 => ?_, fun c3 => ?_⟩
      · have m_3 : (-1) ≤ (g 12 l1) ∧ (g 12 l1) ≤ 9 := I.1 12 l1
        have m_4 : (-2147483648) ≤ (g 13 l1) ∧ (g 13 l1) ≤ 2147483647 := I.1 13 l1
        exact hQ _ (by intros; omega) (by intros; omega) (by intros; omega) (by intros; omega) (by intros; omega)
      · refine ⟨⟨by omega, by omega⟩, ?_⟩
        have m_5 : (-1) ≤ (g 12 l1) ∧ (g 12 l1) ≤ 9 := I.1 12 l1
        have m_6 : (-2147483648) ≤ (g 13 l1) ∧ (g 13 l1) ≤ 2147483647 := I.1 13 l1
        exact hQ _ (by intros; omega) (by intros; omega) (by intros; omega) (by intros; omega) (by intros; omega)
      · refine ⟨⟨by omega, by omega⟩, ?_⟩
        have m_7 : (-2147483648) ≤ (g 13 l1) ∧ (g 13 l1) ≤ 2147483647 := I.1 13 l1
        have m_8 : (-1) ≤ (g 12 l1) ∧ (g 12 l1) ≤ 9 := I.1 12 l1
        exact hQ _ (by intros; omega) (by intros; omega) (by intros; omega) (by intros; omega) (by intros; omega)
    · have m_9 : (-1) ≤ (g 12 l1) ∧ (g 12 l1) ≤ 9 := I.1 12 l1
      have m_10 : (-2147483648) ≤ (g 13 l1) ∧ (g 13 l1) ≤ 2147483647 := I.1 13 l1
      exact hQ _ (by intros; omega) (by intros; omega) (by intros; omega) (by intros; omega) (by intros; omega)
-- SpoutNewsModel.jar(II)I
set_option maxRecDepth 100000 in
set_option maxHeartbeats 4000000 in
theorem k_M_jar {l1 : Int} {l2 : Int} {g : zi_M} {Q : Int → zi_M → Prop} (I : zk_I g) (p1 : (-2147483648) ≤ l1 ∧ l1 ≤ 2147483647) (p2 : (-2147483648) ≤ l2 ∧ l2 ≤ 2147483647) (hQ : ∀ (v : Int) (g' : zi_M), zk_I g' → zk_fr fr_M_jar g g' → ((-2147483649) ≤ v ∧ v ≤ 2147483647) → Q v g') : w_M_jar l1 l2 g Q := by
  unfold w_M_jar
  intro g1 e_1
  have I_2 : zk_I g1 := by rw [e_1]; exact zk_upd (L := (-2147483648)) (H := 2147483647) rfl rfl I ⟨by omega, by omega⟩
  have F_3 : zk_fr fr_M_jar g g1 := by rw [e_1]; exact zk_fu (zk_f0 _) ⟨rfl, rfl⟩
  refine k_M_isIn I_2 ⟨by omega, by omega⟩ ⟨by omega, by omega⟩ ⟨by omega, by omega⟩ (fun v2 b_4 b_5 b_6 => ?_)
  refine ⟨fun c10 => ?_, fun c10 => ?_⟩
  · refine ⟨⟨by omega, by omega⟩, ?_⟩
    refine ⟨fun c9 => ?_, fun c9 => ?_⟩
    · refine ⟨fun c7 => ?_, fun c7 => ?_⟩
      · exact hQ _ _ I_2 F_3 ⟨by omega, by omega⟩
      · refine ⟨⟨by omega, by omega⟩, ?_⟩
        have m_7 := zk_rng I_2 215 (258 + l1)
        have m_8 : g1 215 (258 + l1) = g 215 (258 + l1) := by rw [e_1]; exact zi_u_ne (by decide)
        have m_9 := zk_rng I 215 (258 + l1)
        exact hQ _ _ I_2 F_3 ⟨by omega, by omega⟩
    · refine ⟨⟨by omega, by omega⟩, ?_⟩
      have m_10 := zk_now252 I_2 (i := (252 + l1)) (by omega)
      have m_11 : g1 215 (252 + l1) = g 215 (252 + l1) := by rw [e_1]; exact zi_u_ne (by decide)
      have m_12 := zk_now252 I (i := (252 + l1)) (by omega)
      exact hQ _ _ I_2 F_3 ⟨by omega, by omega⟩
  · exact hQ _ _ I_2 F_3 ⟨by omega, by omega⟩
-- SpoutNews.weather(I)I
set_option maxRecDepth 100000 in
set_option maxHeartbeats 4000000 in
theorem k_S_weather {l1 : Int} {g : zi_M} {Q : Int → zi_M → Prop} (I : zk_I g) (p1 : (-2147483648) ≤ l1 ∧ l1 ≤ 2147483647) (hQ : ∀ v : Int, ((-1) ≤ v ∧ v ≤ 9) → (zWo (g 30) (g 31) (g 19 5) l1 v) → Q v g) : w_S_weather l1 g Q := by
  unfold w_S_weather
  have m_1 : 0 ≤ (g 19 5) ∧ (g 19 5) ≤ 16 := I.1 19 5
  refine k_Texts_rainOn I ⟨by omega, by omega⟩ (fun v1 b_2 b_3 => ?_)
  exact hQ _ ⟨by omega, by omega⟩ (by first | exact zWo_a (by omega) (by omega) (by assumption) (by assumption) | exact zWo_b (by assumption) | assumption)
-- SpoutNewsModel.weather(I)I
set_option maxRecDepth 100000 in
set_option maxHeartbeats 4000000 in
theorem k_M_weather {l1 : Int} {g : zi_M} {Q : Int → zi_M → Prop} (I : zk_I g) (p1 : (-2147483648) ≤ l1 ∧ l1 ≤ 2147483647) (hQ : ∀ (v : Int) (g' : zi_M), zk_I g' → zk_fr fr_M_weather g g' → ((-2147483648) ≤ v ∧ v ≤ 2147483647) → (zQw g' l1 v) → Q v g') : w_M_weather l1 g Q := by
  unfold w_M_weather
  intro g1 e_1
  have I_2 : zk_I g1 := by rw [e_1]; exact zk_upd (L := (-2147483648)) (H := 2147483647) rfl rfl I ⟨by omega, by omega⟩
  have F_3 : zk_fr fr_M_weather g g1 := by rw [e_1]; exact zk_fu (zk_f0 _) ⟨rfl, rfl⟩
  refine k_M_weatherOf I_2 ⟨by omega, by omega⟩ (fun v2 b_4 b_5 => ?_)
  exact hQ _ _ I_2 F_3 ⟨by omega, by omega⟩ (by first | exact zWo_a (by omega) (by omega) (by assumption) (by assumption) | exact zWo_b (by assumption) | assumption)
-- SpoutNews.book(II)I
set_option maxRecDepth 100000 in
set_option maxHeartbeats 4000000 in
theorem k_S_book {l1 : Int} {l2 : Int} {g : zi_M} {Q : Int → zi_M → Prop} (I : zk_I g) (p1 : (-2147483648) ≤ l1 ∧ l1 ≤ 2147483647) (p2 : (-2147483648) ≤ l2 ∧ l2 ≤ 2147483647) (hQ : ∀ v : Int, (l1 < 0 → v = (-1)) → (0 ≤ l1 → (g 2 19) ≤ l1 → v = (-1)) → (0 ≤ l1 → l1 < (g 2 19) → l1 < 150 → (l2 = 0) → v = g 15 l1) → (0 ≤ l1 → l1 < (g 2 19) → l1 < 150 → (l2 = 1) → v = g 16 l1) → (0 ≤ l1 → l1 < (g 2 19) → l1 < 150 → (l2 = 2) → v = g 17 l1) → (0 ≤ l1 → l1 < (g 2 19) → l1 < 150 → (l2 = 3) → v = g 18 l1) → (0 ≤ l1 → l1 < (g 2 19) → l1 < 150 → ¬ l2 = 0 → ¬ l2 = 1 → ¬ l2 = 2 → ¬ l2 = 3 → v = (-1)) → (0 ≤ l1 → l1 < (g 2 19) → 150 ≤ l1 → v = (-1)) → Q v g) : w_S_book l1 l2 g Q := by
  unfold w_S_book
  refine ⟨⟨by omega, by omega⟩, ?_⟩
  refine ⟨fun c11 => ?_, fun c11 => ?_⟩
  · have m_1 : 0 ≤ (g 2 19) ∧ (g 2 19) ≤ 150 := I.1 2 19
    have m_2 : (-2147483648) ≤ (g 15 l1) ∧ (g 15 l1) ≤ 2147483647 := I.1 15 l1
    have m_3 : (-2147483648) ≤ (g 16 l1) ∧ (g 16 l1) ≤ 2147483647 := I.1 16 l1
    have m_4 : (-2147483648) ≤ (g 17 l1) ∧ (g 17 l1) ≤ 2147483647 := I.1 17 l1
    have m_5 : (-2147483648) ≤ (g 18 l1) ∧ (g 18 l1) ≤ 2147483647 := I.1 18 l1
    exact hQ _ (by intros; omega) (by intros; omega) (by intros; omega) (by intros; omega) (by intros; omega) (by intros; omega) (by intros; omega) (by intros; omega)
  · have m_6 : 0 ≤ (g 2 19) ∧ (g 2 19) ≤ 150 := I.1 2 19
    refine ⟨⟨by omega, by omega⟩, ?_⟩
    refine ⟨fun c10 => ?_, fun c10 => ?_⟩
    · have m_7 : (-2147483648) ≤ (g 15 l1) ∧ (g 15 l1) ≤ 2147483647 := I.1 15 l1
      have m_8 : (-2147483648) ≤ (g 16 l1) ∧ (g 16 l1) ≤ 2147483647 := I.1 16 l1
      have m_9 : (-2147483648) ≤ (g 17 l1) ∧ (g 17 l1) ≤ 2147483647 := I.1 17 l1
      have m_10 : (-2147483648) ≤ (g 18 l1) ∧ (g 18 l1) ≤ 2147483647 := I.1 18 l1
      exact hQ _ (by intros; omega) (by intros; omega) (by intros; omega) (by intros; omega) (by intros; omega) (by intros; omega) (by intros; omega) (by intros; omega)
    · refine ⟨fun c9 => ?_, fun c9 => ?_⟩
      · refine ⟨⟨by omega, by omega⟩, ?_⟩
        refine ⟨fun c4 => ?_, fun c4 => ?_, fun c4 => ?_, fun c4 => ?_, fun c4 => ?_⟩
        · have m_11 : (-2147483648) ≤ (g 15 l1) ∧ (g 15 l1) ≤ 2147483647 := I.1 15 l1
          have m_12 : (-2147483648) ≤ (g 16 l1) ∧ (g 16 l1) ≤ 2147483647 := I.1 16 l1
          have m_13 : (-2147483648) ≤ (g 17 l1) ∧ (g 17 l1) ≤ 2147483647 := I.1 17 l1
          have m_14 : (-2147483648) ≤ (g 18 l1) ∧ (g 18 l1) ≤ 2147483647 := I.1 18 l1
          exact hQ _ (by intros; omega) (by intros; omega) (by intros; omega) (by intros; omega) (by intros; omega) (by intros; omega) (by intros; omega) (by intros; omega)
        · refine ⟨⟨by omega, by omega⟩, ?_⟩
          have m_15 : (-2147483648) ≤ (g 15 l1) ∧ (g 15 l1) ≤ 2147483647 := I.1 15 l1
          have m_16 : (-2147483648) ≤ (g 16 l1) ∧ (g 16 l1) ≤ 2147483647 := I.1 16 l1
          have m_17 : (-2147483648) ≤ (g 17 l1) ∧ (g 17 l1) ≤ 2147483647 := I.1 17 l1
          have m_18 : (-2147483648) ≤ (g 18 l1) ∧ (g 18 l1) ≤ 2147483647 := I.1 18 l1
          exact hQ _ (by intros; omega) (by intros; omega) (by intros; omega) (by intros; omega) (by intros; omega) (by intros; omega) (by intros; omega) (by intros; omega)
        · refine ⟨⟨by omega, by omega⟩, ?_⟩
          have m_19 : (-2147483648) ≤ (g 16 l1) ∧ (g 16 l1) ≤ 2147483647 := I.1 16 l1
          have m_20 : (-2147483648) ≤ (g 15 l1) ∧ (g 15 l1) ≤ 2147483647 := I.1 15 l1
          have m_21 : (-2147483648) ≤ (g 17 l1) ∧ (g 17 l1) ≤ 2147483647 := I.1 17 l1
          have m_22 : (-2147483648) ≤ (g 18 l1) ∧ (g 18 l1) ≤ 2147483647 := I.1 18 l1
          exact hQ _ (by intros; omega) (by intros; omega) (by intros; omega) (by intros; omega) (by intros; omega) (by intros; omega) (by intros; omega) (by intros; omega)
        · refine ⟨⟨by omega, by omega⟩, ?_⟩
          have m_23 : (-2147483648) ≤ (g 17 l1) ∧ (g 17 l1) ≤ 2147483647 := I.1 17 l1
          have m_24 : (-2147483648) ≤ (g 15 l1) ∧ (g 15 l1) ≤ 2147483647 := I.1 15 l1
          have m_25 : (-2147483648) ≤ (g 16 l1) ∧ (g 16 l1) ≤ 2147483647 := I.1 16 l1
          have m_26 : (-2147483648) ≤ (g 18 l1) ∧ (g 18 l1) ≤ 2147483647 := I.1 18 l1
          exact hQ _ (by intros; omega) (by intros; omega) (by intros; omega) (by intros; omega) (by intros; omega) (by intros; omega) (by intros; omega) (by intros; omega)
        · refine ⟨⟨by omega, by omega⟩, ?_⟩
          have m_27 : (-2147483648) ≤ (g 18 l1) ∧ (g 18 l1) ≤ 2147483647 := I.1 18 l1
          have m_28 : (-2147483648) ≤ (g 15 l1) ∧ (g 15 l1) ≤ 2147483647 := I.1 15 l1
          have m_29 : (-2147483648) ≤ (g 16 l1) ∧ (g 16 l1) ≤ 2147483647 := I.1 16 l1
          have m_30 : (-2147483648) ≤ (g 17 l1) ∧ (g 17 l1) ≤ 2147483647 := I.1 17 l1
          exact hQ _ (by intros; omega) (by intros; omega) (by intros; omega) (by intros; omega) (by intros; omega) (by intros; omega) (by intros; omega) (by intros; omega)
      · have m_31 : (-2147483648) ≤ (g 15 l1) ∧ (g 15 l1) ≤ 2147483647 := I.1 15 l1
        have m_32 : (-2147483648) ≤ (g 16 l1) ∧ (g 16 l1) ≤ 2147483647 := I.1 16 l1
        have m_33 : (-2147483648) ≤ (g 17 l1) ∧ (g 17 l1) ≤ 2147483647 := I.1 17 l1
        have m_34 : (-2147483648) ≤ (g 18 l1) ∧ (g 18 l1) ≤ 2147483647 := I.1 18 l1
        exact hQ _ (by intros; omega) (by intros; omega) (by intros; omega) (by intros; omega) (by intros; omega) (by intros; omega) (by intros; omega) (by intros; omega)
-- SpoutNewsModel.book(II)I
set_option maxRecDepth 100000 in
set_option maxHeartbeats 4000000 in
theorem k_M_book {l1 : Int} {l2 : Int} {g : zi_M} {Q : Int → zi_M → Prop} (I : zk_I g) (p1 : (-2147483648) ≤ l1 ∧ l1 ≤ 2147483647) (p2 : (-2147483648) ≤ l2 ∧ l2 ≤ 2147483647) (hQ : ∀ (v : Int) (g' : zi_M), zk_I g' → zk_fr fr_M_book g g' → ((-2147483648) ≤ v ∧ v ≤ 2147483647) → Q v g') : w_M_book l1 l2 g Q := by
  unfold w_M_book
  intro g1 e_1
  have I_2 : zk_I g1 := by rw [e_1]; exact zk_upd (L := (-2147483648)) (H := 2147483647) rfl rfl I ⟨by omega, by omega⟩
  have F_3 : zk_fr fr_M_book g g1 := by rw [e_1]; exact zk_fu (zk_f0 _) ⟨rfl, rfl⟩
  have m_4 := zk_now2 I_2 (i := 2) (by omega)
  have m_5 : g1 215 2 = g 215 2 := by rw [e_1]; exact zi_u_ne (by decide)
  have m_6 := zk_now2 I (i := 2) (by omega)
  refine k_M_isIn I_2 ⟨by omega, by omega⟩ ⟨by omega, by omega⟩ ⟨by omega, by omega⟩ (fun v2 b_7 b_8 b_9 => ?_)
  refine ⟨fun c10 => ?_, fun c10 => ?_⟩
  · exact hQ _ _ I_2 F_3 ⟨by omega, by omega⟩
  · refine k_M_isIn I_2 ⟨by omega, by omega⟩ ⟨by omega, by omega⟩ ⟨by omega, by omega⟩ (fun v5 b_10 b_11 b_12 => ?_)
    refine ⟨fun c9 => ?_, fun c9 => ?_⟩
    · exact hQ _ _ I_2 F_3 ⟨by omega, by omega⟩
    · refine ⟨⟨by omega, by omega⟩, ?_⟩
      have m_13 : (-2147483648) ≤ (g1 221 ((4 * l1) + l2)) ∧ (g1 221 ((4 * l1) + l2)) ≤ 2147483647 := I_2.1 221 ((4 * l1) + l2)
      have m_14 : g1 221 ((4 * l1) + l2) = g 221 ((4 * l1) + l2) := by rw [e_1]; exact zi_u_ne (by decide)
      have m_15 : (-2147483648) ≤ (g 221 ((4 * l1) + l2)) ∧ (g 221 ((4 * l1) + l2)) ≤ 2147483647 := I.1 221 ((4 * l1) + l2)
      exact hQ _ _ I_2 F_3 ⟨by omega, by omega⟩
-- SpoutNews$World.heardInAll()I
set_option maxRecDepth 100000 in
set_option maxHeartbeats 4000000 in
theorem k_World_heardInAll_l4 {g : zi_M} (I : zk_I g) {K27 : Int → zi_M → Prop} {Q : Int → zi_M → Prop} (hK27 : ∀ (k1 : Int), K27 k1 g) (hQ : ∀ v : Int, Q v g) : ∀ (n : Nat) {l1 : Int} {l2 : Int}, (0 ≤ l2 ∧ l2 ≤ 10) → 10 - l2 < (n : Int) → w_World_heardInAll_l4 K27 Q n l1 l2 g
  | 0, l1, l2, b0, hm => by exfalso; omega
  | n + 1, l1, l2, b0, hm => by
    unfold w_World_heardInAll_l4
    have m_1 : 0 ≤ (g 165 8) ∧ (g 165 8) ≤ 10 := I.1 165 8
    refine ⟨⟨by omega, by omega⟩, ⟨by omega, by omega⟩, ?_⟩
    refine ⟨fun c4 => ?_, fun c4 => ?_⟩
    · exact hK27 _
    · refine ⟨⟨by omega, by omega⟩, ?_⟩
      have m_2 : 0 ≤ (g 171 l2) ∧ (g 171 l2) ≤ 20 := I.1 171 l2
      have m_3 := zi_r_w (l1 + (g 171 l2))
      exact k_World_heardInAll_l4 I hK27 hQ n ⟨by omega, by omega⟩ (by omega)
set_option maxRecDepth 100000 in
set_option maxHeartbeats 4000000 in
theorem k_World_heardInAll {g : zi_M} {Q : Int → zi_M → Prop} (I : zk_I g) (hQ : ∀ v : Int, Q v g) : w_World_heardInAll g Q := by
  unfold w_World_heardInAll
  refine ⟨((10 - 0 : Int).toNat + 1), k_World_heardInAll_l4 I (fun k5 => ?_) hQ ((10 - 0 : Int).toNat + 1) ⟨by omega, by omega⟩ (by omega)⟩
  exact hQ _
-- SpoutNews.goes(II)I
set_option maxRecDepth 100000 in
set_option maxHeartbeats 4000000 in
theorem k_S_goes_l73 {l1 : Int} {K110 : zi_M → Prop} {Q : Int → zi_M → Prop} {g0 : zi_M} (q1 : 1 ≤ l1 ∧ l1 ≤ 60) (hK110 : ∀ (g : zi_M), zk_I g → zk_fr fr_S_goes g0 g → K110 g) (hQ : ∀ (v : Int) (g' : zi_M), zk_I g' → zk_fr fr_S_goes g0 g' → Q v g') : ∀ (n : Nat) {l5 : Int} {g : zi_M}, zk_I g → zk_fr fr_S_goes g0 g → (0 ≤ l5 ∧ l5 ≤ 60) → 60 - l5 < (n : Int) → w_S_goes_l73 l1 K110 Q n l5 g
  | 0, l5, g, I, F, b0, hm => by exfalso; omega
  | n + 1, l5, g, I, F, b0, hm => by
    unfold w_S_goes_l73
    refine ⟨⟨by omega, by omega⟩, ⟨by omega, by omega⟩, ?_⟩
    refine ⟨fun c13 => ?_, fun c13 => ?_⟩
    · exact hK110 _ I F
    · refine k_DayRun_pass rfl I (fun g11 I_5 F_6 => ?_)
      have F_7 : zk_fr fr_S_goes g0 g11 := zk_ft F F_6 (fun a i => (fun h => Or.elim h (fun h => (Or.inr (Or.inr (Or.inr (Or.inr (Or.inr (Or.inr (Or.inr (Or.inr (Or.inr (Or.inr (Or.inr (Or.inr (Or.inl h)))))))))))))) (fun h => Or.elim h (fun h => (Or.inr (Or.inr (Or.inr (Or.inr (Or.inr (Or.inr (Or.inr (Or.inr (Or.inr (Or.inr (Or.inr (Or.inr (Or.inr (Or.inl h))))))))))))))) (fun h => Or.elim h (fun h => (Or.inr (Or.inr (Or.inr (Or.inr (Or.inr (Or.inl h))))))) (fun h => Or.elim h (fun h => (Or.inr (Or.inr (Or.inr (Or.inr (Or.inr (Or.inr (Or.inr (Or.inl h))))))))) (fun h => Or.elim h (fun h => (Or.inr (Or.inr (Or.inr (Or.inr (Or.inr (Or.inr (Or.inr (Or.inr (Or.inl h)))))))))) (fun h => Or.elim h (fun h => (Or.inr (Or.inr (Or.inr (Or.inr (Or.inr (Or.inr (Or.inr (Or.inr (Or.inr (Or.inl h))))))))))) (fun h => Or.elim h (fun h => (Or.inr (Or.inr (Or.inr (Or.inr (Or.inr (Or.inr (Or.inr (Or.inr (Or.inr (Or.inr (Or.inl h)))))))))))) (fun h => Or.elim h (fun h => (Or.inr (Or.inr (Or.inr (Or.inr (Or.inr (Or.inr (Or.inr (Or.inr (Or.inr (Or.inr (Or.inr (Or.inl h))))))))))))) (fun h => Or.elim h (fun h => (Or.inl h)) (fun h => Or.elim h (fun h => (Or.inr (Or.inl h))) (fun h => Or.elim h (fun h => (Or.inr (Or.inr (Or.inr (Or.inr (Or.inr (Or.inr (Or.inl h)))))))) (fun h => Or.elim h (fun h => (Or.inr (Or.inr (Or.inr (Or.inr (Or.inr (Or.inr (Or.inr (Or.inr (Or.inr (Or.inr (Or.inr (Or.inr (Or.inr (Or.inr (Or.inl h)))))))))))))))) (fun h => Or.elim h (fun h => (Or.inr (Or.inr (Or.inr (Or.inr (Or.inr (Or.inr (Or.inr (Or.inr (Or.inr (Or.inr (Or.inr (Or.inr (Or.inr (Or.inr (Or.inr (Or.inl h))))))))))))))))) (fun h => Or.elim h (fun h => (Or.inr (Or.inr (Or.inr (Or.inr (Or.inr (Or.inr (Or.inr (Or.inr (Or.inr (Or.inr (Or.inr (Or.inr (Or.inr (Or.inr (Or.inr (Or.inr (Or.inl h)))))))))))))))))) (fun h => Or.elim h (fun h => (Or.inr (Or.inr (Or.inr (Or.inr (Or.inr (Or.inr (Or.inr (Or.inr (Or.inr (Or.inr (Or.inr (Or.inr (Or.inr (Or.inr (Or.inr (Or.inr (Or.inr (Or.inl h))))))))))))))))))) (fun h => Or.elim h (fun h => (Or.inr (Or.inr (Or.inr (Or.inr (Or.inr (Or.inr (Or.inr (Or.inr (Or.inr (Or.inr (Or.inr (Or.inr (Or.inr (Or.inr (Or.inr (Or.inr (Or.inr (Or.inr (Or.inl h)))))))))))))))))))) (fun h => Or.elim h (fun h => (Or.inr (Or.inr (Or.inr (Or.inr (Or.inr (Or.inr (Or.inr (Or.inr (Or.inr (Or.inr (Or.inr (Or.inr (Or.inr (Or.inr (Or.inr (Or.inr (Or.inr (Or.inr (Or.inr (Or.inr (Or.inl h)))))))))))))))))))))) (fun h => Or.elim h (fun h => (Or.inr (Or.inr (Or.inr (Or.inr (Or.inr (Or.inr (Or.inr (Or.inr (Or.inr (Or.inr (Or.inr (Or.inr (Or.inr (Or.inr (Or.inr (Or.inr (Or.inr (Or.inr (Or.inr (Or.inr (Or.inr (Or.inl h))))))))))))))))))))))) (fun h => Or.elim h (fun h => (Or.inr (Or.inr (Or.inr (Or.inr (Or.inr (Or.inr (Or.inr (Or.inr (Or.inr (Or.inr (Or.inr (Or.inr (Or.inr (Or.inr (Or.inr (Or.inr (Or.inr (Or.inr (Or.inr (Or.inr (Or.inr (Or.inr (Or.inl h)))))))))))))))))))))))) (fun h => Or.elim h (fun h => (Or.inr (Or.inr (Or.inr (Or.inr (Or.inr (Or.inr (Or.inr (Or.inr (Or.inr (Or.inr (Or.inr (Or.inr (Or.inr (Or.inr (Or.inr (Or.inr (Or.inr (Or.inr (Or.inr (Or.inr (Or.inr (Or.inr (Or.inr (Or.inl h))))))))))))))))))))))))) (fun h => Or.elim h (fun h => (Or.inr (Or.inr (Or.inr (Or.inr (Or.inr (Or.inr (Or.inr (Or.inr (Or.inr (Or.inr (Or.inr (Or.inr (Or.inr (Or.inr (Or.inr (Or.inr (Or.inr (Or.inr (Or.inr (Or.inr (Or.inr (Or.inr (Or.inr (Or.inr (Or.inl h)))))))))))))))))))))))))) (fun h => Or.elim h (fun h => (Or.inr (Or.inr (Or.inr (Or.inr (Or.inr (Or.inr (Or.inr (Or.inr (Or.inr (Or.inr (Or.inr (Or.inr (Or.inr (Or.inr (Or.inr (Or.inr (Or.inr (Or.inr (Or.inr (Or.inr (Or.inr (Or.inr (Or.inr (Or.inr (Or.inr (Or.inl h))))))))))))))))))))))))))) (fun h => (Or.inr (Or.inr (Or.inr (Or.inr (Or.inr (Or.inr (Or.inr (Or.inr (Or.inr (Or.inr (Or.inr (Or.inr (Or.inr (Or.inr (Or.inr (Or.inr (Or.inr (Or.inr (Or.inr (Or.inr (Or.inr (Or.inr (Or.inr (Or.inr (Or.inr (Or.inr (Or.inr h)))))))))))))))))))))))))))))))))))))))))))))))))))
      exact k_S_goes_l73 q1 hK110 hQ n I_5 F_7 ⟨by omega, by omega⟩ (by omega)
set_option maxRecDepth 100000 in
set_option maxHeartbeats 4000000 in
theorem k_S_goes_b32 {l1 : Int} {l2 : Int} {l3 : Int} {s0 : Int} {Q : Int → zi_M → Prop} {g : zi_M} {g0 : zi_M} (I : zk_I g) (F : zk_fr fr_S_goes g0 g) (p1 : (-2147483648) ≤ l1 ∧ l1 ≤ 2147483647) (p2 : (-2147483648) ≤ l2 ∧ l2 ≤ 2147483647) (p3 : 0 ≤ l3 ∧ l3 ≤ 1) (ix0 : ¬ s0 = 0 → 10 ≤ l2 ∧ l2 ≤ 15) (ps0 : 0 ≤ s0 ∧ s0 ≤ 1) (hQ : ∀ (v : Int) (g' : zi_M), zk_I g' → zk_fr fr_S_goes g0 g' → Q v g') : w_S_goes_b32 l1 l2 l3 s0 g Q := by
  unfold w_S_goes_b32
  refine ⟨⟨by omega, by omega⟩, ?_⟩
  refine ⟨fun c40 => ?_, fun c40 => ?_⟩
  · exact hQ _ _ I F
  · refine ⟨fun c39 => ?_, fun c39 => ?_⟩
    · exact hQ _ _ I F
    · refine ⟨⟨by omega, by omega⟩, ?_⟩
      refine ⟨fun c38 => ?_, fun c38 => ?_⟩
      · refine k_World_copyFrom rfl rfl I (fun g6 I_2 F_3 b_1 => ?_)
        have F_4 : zk_fr fr_S_goes g0 g6 := zk_ft F F_3 (fun a i => (fun h => Or.elim h (fun h => (Or.inr (Or.inr (Or.inl h)))) (fun h => Or.elim h (fun h => (Or.inr (Or.inr (Or.inr (Or.inr (Or.inr (Or.inr (Or.inr (Or.inr (Or.inr (Or.inr (Or.inr (Or.inr (Or.inl h)))))))))))))) (fun h => Or.elim h (fun h => (Or.inr (Or.inr (Or.inr (Or.inr (Or.inr (Or.inr (Or.inr (Or.inr (Or.inr (Or.inr (Or.inr (Or.inr (Or.inr (Or.inl h))))))))))))))) (fun h => Or.elim h (fun h => (Or.inr (Or.inr (Or.inr (Or.inl h))))) (fun h => Or.elim h (fun h => (Or.inr (Or.inr (Or.inr (Or.inr (Or.inl h)))))) (fun h => Or.elim h (fun h => (Or.inr (Or.inr (Or.inr (Or.inr (Or.inr (Or.inl h))))))) (fun h => Or.elim h (fun h => (Or.inr (Or.inr (Or.inr (Or.inr (Or.inr (Or.inr (Or.inr (Or.inl h))))))))) (fun h => Or.elim h (fun h => (Or.inr (Or.inr (Or.inr (Or.inr (Or.inr (Or.inr (Or.inr (Or.inr (Or.inl h)))))))))) (fun h => Or.elim h (fun h => (Or.inr (Or.inr (Or.inr (Or.inr (Or.inr (Or.inr (Or.inr (Or.inr (Or.inr (Or.inl h))))))))))) (fun h => Or.elim h (fun h => (Or.inr (Or.inr (Or.inr (Or.inr (Or.inr (Or.inr (Or.inr (Or.inr (Or.inr (Or.inr (Or.inl h)))))))))))) (fun h => Or.elim h (fun h => (Or.inr (Or.inr (Or.inr (Or.inr (Or.inr (Or.inr (Or.inr (Or.inr (Or.inr (Or.inr (Or.inr (Or.inl h))))))))))))) (fun h => Or.elim h (fun h => (Or.inr (Or.inr (Or.inr (Or.inr (Or.inr (Or.inr (Or.inr (Or.inr (Or.inr (Or.inr (Or.inr (Or.inr (Or.inr (Or.inr (Or.inr (Or.inr (Or.inr (Or.inr (Or.inr (Or.inl h))))))))))))))))))))) (fun h => Or.elim h (fun h => (Or.inr (Or.inr (Or.inr (Or.inr (Or.inr (Or.inr (Or.inr (Or.inr (Or.inr (Or.inr (Or.inr (Or.inr (Or.inr (Or.inr (Or.inr (Or.inr (Or.inr (Or.inr (Or.inr (Or.inr (Or.inl h)))))))))))))))))))))) (fun h => Or.elim h (fun h => (Or.inr (Or.inr (Or.inr (Or.inr (Or.inr (Or.inr (Or.inr (Or.inr (Or.inr (Or.inr (Or.inr (Or.inr (Or.inr (Or.inr (Or.inr (Or.inr (Or.inr (Or.inr (Or.inr (Or.inr (Or.inr (Or.inl h))))))))))))))))))))))) (fun h => Or.elim h (fun h => (Or.inr (Or.inr (Or.inr (Or.inr (Or.inr (Or.inr (Or.inr (Or.inr (Or.inr (Or.inr (Or.inr (Or.inr (Or.inr (Or.inr (Or.inr (Or.inr (Or.inr (Or.inr (Or.inr (Or.inr (Or.inr (Or.inr (Or.inl h)))))))))))))))))))))))) (fun h => Or.elim h (fun h => (Or.inr (Or.inr (Or.inr (Or.inr (Or.inr (Or.inr (Or.inr (Or.inr (Or.inr (Or.inr (Or.inr (Or.inr (Or.inr (Or.inr (Or.inr (Or.inr (Or.inr (Or.inr (Or.inr (Or.inr (Or.inr (Or.inr (Or.inr (Or.inl h))))))))))))))))))))))))) (fun h => Or.elim h (fun h => (Or.inr (Or.inr (Or.inr (Or.inr (Or.inr (Or.inr (Or.inr (Or.inr (Or.inr (Or.inr (Or.inr (Or.inr (Or.inr (Or.inr (Or.inr (Or.inr (Or.inr (Or.inr (Or.inr (Or.inr (Or.inr (Or.inr (Or.inr (Or.inr (Or.inl h)))))))))))))))))))))))))) (fun h => Or.elim h (fun h => (Or.inr (Or.inr (Or.inr (Or.inr (Or.inr (Or.inr (Or.inr (Or.inr (Or.inr (Or.inr (Or.inr (Or.inr (Or.inr (Or.inr (Or.inr (Or.inr (Or.inr (Or.inr (Or.inr (Or.inr (Or.inr (Or.inr (Or.inr (Or.inr (Or.inr (Or.inl h))))))))))))))))))))))))))) (fun h => (Or.inr (Or.inr (Or.inr (Or.inr (Or.inr (Or.inr (Or.inr (Or.inr (Or.inr (Or.inr (Or.inr (Or.inr (Or.inr (Or.inr (Or.inr (Or.inr (Or.inr (Or.inr (Or.inr (Or.inr (Or.inr (Or.inr (Or.inr (Or.inr (Or.inr (Or.inr (Or.inl h)))))))))))))))))))))))))))))))))))))))))))))))
        refine ⟨((60 - 0 : Int).toNat + 1), k_S_goes_l73 (l1 := l1) ⟨by omega, by omega⟩ (fun g14 I_8 F_9 => ?_) hQ ((60 - 0 : Int).toNat + 1) I_2 F_4 ⟨by omega, by omega⟩ (by omega)⟩
        refine ⟨⟨by omega, by omega⟩, ?_⟩
        refine ⟨fun c16 => ?_, fun c16 => ?_, fun c16 => ?_, fun c16 => ?_⟩
        · refine ⟨⟨by omega, by omega⟩, ?_⟩
          refine ⟨fun c19 => ?_, fun c19 => ?_⟩
          · exact hQ _ _ I_8 F_9
          · refine ⟨⟨by omega, by omega⟩, ?_⟩
            have m_10 : (-2147483648) ≤ (g14 176 (l2 - 10)) ∧ (g14 176 (l2 - 10)) ≤ 2147483647 := I_8.1 176 (l2 - 10)
            exact hQ _ _ I_8 F_9
        · have m_11 : (-2147483648) ≤ (g14 165 15) ∧ (g14 165 15) ≤ 2147483647 := I_8.1 165 15
          exact hQ _ _ I_8 F_9
        · have m_12 : (-2147483648) ≤ (g14 165 16) ∧ (g14 165 16) ≤ 2147483647 := I_8.1 165 16
          exact hQ _ _ I_8 F_9
        · refine k_World_heardInAll I_8 (fun v20 => ?_)
          exact hQ _ _ I_8 F_9
      · refine ⟨⟨by omega, by omega⟩, ?_⟩
        refine ⟨fun c37 => ?_, fun c37 => ?_⟩
        · refine k_World_copyFrom rfl rfl I (fun g26 I_14 F_15 b_13 => ?_)
          have F_16 : zk_fr fr_S_goes g0 g26 := zk_ft F F_15 (fun a i => (fun h => Or.elim h (fun h => (Or.inr (Or.inr (Or.inl h)))) (fun h => Or.elim h (fun h => (Or.inr (Or.inr (Or.inr (Or.inr (Or.inr (Or.inr (Or.inr (Or.inr (Or.inr (Or.inr (Or.inr (Or.inr (Or.inl h)))))))))))))) (fun h => Or.elim h (fun h => (Or.inr (Or.inr (Or.inr (Or.inr (Or.inr (Or.inr (Or.inr (Or.inr (Or.inr (Or.inr (Or.inr (Or.inr (Or.inr (Or.inl h))))))))))))))) (fun h => Or.elim h (fun h => (Or.inr (Or.inr (Or.inr (Or.inl h))))) (fun h => Or.elim h (fun h => (Or.inr (Or.inr (Or.inr (Or.inr (Or.inl h)))))) (fun h => Or.elim h (fun h => (Or.inr (Or.inr (Or.inr (Or.inr (Or.inr (Or.inl h))))))) (fun h => Or.elim h (fun h => (Or.inr (Or.inr (Or.inr (Or.inr (Or.inr (Or.inr (Or.inr (Or.inl h))))))))) (fun h => Or.elim h (fun h => (Or.inr (Or.inr (Or.inr (Or.inr (Or.inr (Or.inr (Or.inr (Or.inr (Or.inl h)))))))))) (fun h => Or.elim h (fun h => (Or.inr (Or.inr (Or.inr (Or.inr (Or.inr (Or.inr (Or.inr (Or.inr (Or.inr (Or.inl h))))))))))) (fun h => Or.elim h (fun h => (Or.inr (Or.inr (Or.inr (Or.inr (Or.inr (Or.inr (Or.inr (Or.inr (Or.inr (Or.inr (Or.inl h)))))))))))) (fun h => Or.elim h (fun h => (Or.inr (Or.inr (Or.inr (Or.inr (Or.inr (Or.inr (Or.inr (Or.inr (Or.inr (Or.inr (Or.inr (Or.inl h))))))))))))) (fun h => Or.elim h (fun h => (Or.inr (Or.inr (Or.inr (Or.inr (Or.inr (Or.inr (Or.inr (Or.inr (Or.inr (Or.inr (Or.inr (Or.inr (Or.inr (Or.inr (Or.inr (Or.inr (Or.inr (Or.inr (Or.inr (Or.inl h))))))))))))))))))))) (fun h => Or.elim h (fun h => (Or.inr (Or.inr (Or.inr (Or.inr (Or.inr (Or.inr (Or.inr (Or.inr (Or.inr (Or.inr (Or.inr (Or.inr (Or.inr (Or.inr (Or.inr (Or.inr (Or.inr (Or.inr (Or.inr (Or.inr (Or.inl h)))))))))))))))))))))) (fun h => Or.elim h (fun h => (Or.inr (Or.inr (Or.inr (Or.inr (Or.inr (Or.inr (Or.inr (Or.inr (Or.inr (Or.inr (Or.inr (Or.inr (Or.inr (Or.inr (Or.inr (Or.inr (Or.inr (Or.inr (Or.inr (Or.inr (Or.inr (Or.inl h))))))))))))))))))))))) (fun h => Or.elim h (fun h => (Or.inr (Or.inr (Or.inr (Or.inr (Or.inr (Or.inr (Or.inr (Or.inr (Or.inr (Or.inr (Or.inr (Or.inr (Or.inr (Or.inr (Or.inr (Or.inr (Or.inr (Or.inr (Or.inr (Or.inr (Or.inr (Or.inr (Or.inl h)))))))))))))))))))))))) (fun h => Or.elim h (fun h => (Or.inr (Or.inr (Or.inr (Or.inr (Or.inr (Or.inr (Or.inr (Or.inr (Or.inr (Or.inr (Or.inr (Or.inr (Or.inr (Or.inr (Or.inr (Or.inr (Or.inr (Or.inr (Or.inr (Or.inr (Or.inr (Or.inr (Or.inr (Or.inl h))))))))))))))))))))))))) (fun h => Or.elim h (fun h => (Or.inr (Or.inr (Or.inr (Or.inr (Or.inr (Or.inr (Or.inr (Or.inr (Or.inr (Or.inr (Or.inr (Or.inr (Or.inr (Or.inr (Or.inr (Or.inr (Or.inr (Or.inr (Or.inr (Or.inr (Or.inr (Or.inr (Or.inr (Or.inr (Or.inl h)))))))))))))))))))))))))) (fun h => Or.elim h (fun h => (Or.inr (Or.inr (Or.inr (Or.inr (Or.inr (Or.inr (Or.inr (Or.inr (Or.inr (Or.inr (Or.inr (Or.inr (Or.inr (Or.inr (Or.inr (Or.inr (Or.inr (Or.inr (Or.inr (Or.inr (Or.inr (Or.inr (Or.inr (Or.inr (Or.inr (Or.inl h))))))))))))))))))))))))))) (fun h => (Or.inr (Or.inr (Or.inr (Or.inr (Or.inr (Or.inr (Or.inr (Or.inr (Or.inr (Or.inr (Or.inr (Or.inr (Or.inr (Or.inr (Or.inr (Or.inr (Or.inr (Or.inr (Or.inr (Or.inr (Or.inr (Or.inr (Or.inr (Or.inr (Or.inr (Or.inr (Or.inl h)))))))))))))))))))))))))))))))))))))))))))))))
          refine ⟨((60 - 0 : Int).toNat + 1), k_S_goes_l73 (l1 := l1) ⟨by omega, by omega⟩ (fun g28 I_17 F_18 => ?_) hQ ((60 - 0 : Int).toNat + 1) I_14 F_16 ⟨by omega, by omega⟩ (by omega)⟩
          refine ⟨⟨by omega, by omega⟩, ?_⟩
          refine ⟨fun c30 => ?_, fun c30 => ?_, fun c30 => ?_, fun c30 => ?_⟩
          · refine ⟨fun c32 => ?_, fun c32 => ?_⟩
            · exact hQ _ _ I_17 F_18
            · refine ⟨⟨by omega, by omega⟩, ?_⟩
              have m_19 : (-2147483648) ≤ (g28 176 (l2 - 10)) ∧ (g28 176 (l2 - 10)) ≤ 2147483647 := I_17.1 176 (l2 - 10)
              exact hQ _ _ I_17 F_18
          · have m_20 : (-2147483648) ≤ (g28 165 15) ∧ (g28 165 15) ≤ 2147483647 := I_17.1 165 15
            exact hQ _ _ I_17 F_18
          · have m_21 : (-2147483648) ≤ (g28 165 16) ∧ (g28 165 16) ≤ 2147483647 := I_17.1 165 16
            exact hQ _ _ I_17 F_18
          · refine k_World_heardInAll I_17 (fun v33 => ?_)
            exact hQ _ _ I_17 F_18
        · exact hQ _ _ I F
set_option maxRecDepth 100000 in
set_option maxHeartbeats 4000000 in
theorem k_S_goes_b14 {l1 : Int} {l2 : Int} {s0 : Int} {Q : Int → zi_M → Prop} {g : zi_M} {g0 : zi_M} (I : zk_I g) (F : zk_fr fr_S_goes g0 g) (p1 : (-2147483648) ≤ l1 ∧ l1 ≤ 2147483647) (p2 : (-2147483648) ≤ l2 ∧ l2 ≤ 2147483647) (ps0 : 0 ≤ s0 ∧ s0 ≤ 1) (hQ : ∀ (v : Int) (g' : zi_M), zk_I g' → zk_fr fr_S_goes g0 g' → Q v g') : w_S_goes_b14 l1 l2 s0 g Q := by
  unfold w_S_goes_b14
  refine ⟨⟨by omega, by omega⟩, ?_⟩
  refine ⟨fun c42 => ?_, fun c42 => ?_⟩
  · exact k_S_goes_b32 I F ⟨by omega, by omega⟩ ⟨by omega, by omega⟩ ⟨by omega, by omega⟩ (by omega) ⟨by omega, by omega⟩ hQ
  · refine ⟨fun c41 => ?_, fun c41 => ?_⟩
    · exact k_S_goes_b32 I F ⟨by omega, by omega⟩ ⟨by omega, by omega⟩ ⟨by omega, by omega⟩ (by omega) ⟨by omega, by omega⟩ hQ
    · exact k_S_goes_b32 I F ⟨by omega, by omega⟩ ⟨by omega, by omega⟩ ⟨by omega, by omega⟩ (by omega) ⟨by omega, by omega⟩ hQ
set_option maxRecDepth 100000 in
set_option maxHeartbeats 4000000 in
theorem k_S_goes {l1 : Int} {l2 : Int} {g : zi_M} {Q : Int → zi_M → Prop} (I : zk_I g) (p1 : (-2147483648) ≤ l1 ∧ l1 ≤ 2147483647) (p2 : (-2147483648) ≤ l2 ∧ l2 ≤ 2147483647) (hQ : ∀ (v : Int) (g' : zi_M), zk_I g' → zk_fr fr_S_goes g g' → Q v g') : w_S_goes l1 l2 g Q := by
  unfold w_S_goes
  refine ⟨⟨by omega, by omega⟩, ?_⟩
  refine ⟨fun c44 => ?_, fun c44 => ?_⟩
  · exact k_S_goes_b14 I (zk_f0 _) ⟨by omega, by omega⟩ ⟨by omega, by omega⟩ ⟨by omega, by omega⟩ hQ
  · refine ⟨fun c43 => ?_, fun c43 => ?_⟩
    · exact k_S_goes_b14 I (zk_f0 _) ⟨by omega, by omega⟩ ⟨by omega, by omega⟩ ⟨by omega, by omega⟩ hQ
    · exact k_S_goes_b14 I (zk_f0 _) ⟨by omega, by omega⟩ ⟨by omega, by omega⟩ ⟨by omega, by omega⟩ hQ
-- SpoutNewsModel.thinks()V
set_option maxRecDepth 100000 in
set_option maxHeartbeats 4000000 in
theorem k_M_thinks_l2 {K27 : zi_M → Prop} {Q : Int → zi_M → Prop} {g0 : zi_M} (hK27 : ∀ (g : zi_M), zk_I g → zk_fr fr_M_thinks g0 g → K27 g) (hQ : ∀ g' : zi_M, zk_I g' → zk_fr fr_M_thinks g0 g' → Q 0 g') : ∀ (n : Nat) {l1 : Int} {g : zi_M}, zk_I g → zk_fr fr_M_thinks g0 g → (0 ≤ l1 ∧ l1 ≤ 264) → 264 - l1 < (n : Int) → w_M_thinks_l2 K27 Q n l1 g
  | 0, l1, g, I, F, b0, hm => by exfalso; omega
  | n + 1, l1, g, I, F, b0, hm => by
    unfold w_M_thinks_l2
    refine ⟨⟨by omega, by omega⟩, ?_⟩
    refine ⟨fun c4 => ?_, fun c4 => ?_⟩
    · exact hK27 _ I F
    · refine ⟨⟨by omega, by omega⟩, ?_⟩
      have m_4 := zk_rng I 215 l1
      intro g3 e_1
      have I_2 : zk_I g3 := by rw [e_1]; exact zk_row4 I
      have F_3 : zk_fr fr_M_thinks g0 g3 := by rw [e_1]; exact zk_fu F (Or.inl rfl)
      exact k_M_thinks_l2 hK27 hQ n I_2 F_3 ⟨by omega, by omega⟩ (by omega)
set_option maxRecDepth 100000 in
set_option maxHeartbeats 4000000 in
theorem k_M_thinks {g : zi_M} {Q : Int → zi_M → Prop} (I : zk_I g) (hQ : ∀ g' : zi_M, zk_I g' → zk_fr fr_M_thinks g g' → Q 0 g') : w_M_thinks g Q := by
  unfold w_M_thinks
  refine ⟨((264 - 0 : Int).toNat + 1), k_M_thinks_l2 (fun g5 I_5 F_6 => ?_) hQ ((264 - 0 : Int).toNat + 1) I (zk_f0 _) ⟨by omega, by omega⟩ (by omega)⟩
  intro g6 e_7
  have I_8 : zk_I g6 := by rw [e_7]; exact zk_upd (L := 0) (H := 1) rfl rfl I_5 ⟨by omega, by omega⟩
  have F_9 : zk_fr fr_M_thinks g g6 := by rw [e_7]; exact zk_fu F_6 (Or.inr ⟨rfl, rfl⟩)
  exact hQ _ I_8 F_9
-- SpoutNewsModel.endsThought()V
set_option maxRecDepth 100000 in
set_option maxHeartbeats 4000000 in
theorem k_M_endsThought_l2 {K27 : zi_M → Prop} {Q : Int → zi_M → Prop} {g0 : zi_M} (hK27 : ∀ (g : zi_M), zk_I g → zk_fr fr_M_endsThought g0 g → K27 g) (hQ : ∀ g' : zi_M, zk_I g' → zk_fr fr_M_endsThought g0 g' → Q 0 g') : ∀ (n : Nat) {l1 : Int} {g : zi_M}, zk_I g → zk_fr fr_M_endsThought g0 g → (0 ≤ l1 ∧ l1 ≤ 264) → 264 - l1 < (n : Int) → w_M_endsThought_l2 K27 Q n l1 g
  | 0, l1, g, I, F, b0, hm => by exfalso; omega
  | n + 1, l1, g, I, F, b0, hm => by
    unfold w_M_endsThought_l2
    refine ⟨⟨by omega, by omega⟩, ?_⟩
    refine ⟨fun c4 => ?_, fun c4 => ?_⟩
    · exact hK27 _ I F
    · refine ⟨⟨by omega, by omega⟩, ?_⟩
      have m_4 := zk_rng I 217 l1
      intro g3 e_1
      have I_2 : zk_I g3 := by rw [e_1]; exact zk_row5 I
      have F_3 : zk_fr fr_M_endsThought g0 g3 := by rw [e_1]; exact zk_fu F (Or.inl rfl)
      exact k_M_endsThought_l2 hK27 hQ n I_2 F_3 ⟨by omega, by omega⟩ (by omega)
set_option maxRecDepth 100000 in
set_option maxHeartbeats 4000000 in
theorem k_M_endsThought {g : zi_M} {Q : Int → zi_M → Prop} (I : zk_I g) (hQ : ∀ g' : zi_M, zk_I g' → zk_fr fr_M_endsThought g g' → Q 0 g') : w_M_endsThought g Q := by
  unfold w_M_endsThought
  refine ⟨((264 - 0 : Int).toNat + 1), k_M_endsThought_l2 (fun g5 I_5 F_6 => ?_) hQ ((264 - 0 : Int).toNat + 1) I (zk_f0 _) ⟨by omega, by omega⟩ (by omega)⟩
  intro g6 e_7
  have I_8 : zk_I g6 := by rw [e_7]; exact zk_upd (L := 0) (H := 1) rfl rfl I_5 ⟨by omega, by omega⟩
  have F_9 : zk_fr fr_M_endsThought g g6 := by rw [e_7]; exact zk_fu F_6 (Or.inr ⟨rfl, rfl⟩)
  exact hQ _ I_8 F_9
-- SpoutNewsModel.goes(II)I
set_option maxRecDepth 100000 in
set_option maxHeartbeats 4000000 in
theorem k_M_goes_l46 {l1 : Int} {K62 : zi_M → Prop} {Q : Int → zi_M → Prop} {g0 : zi_M} (q1 : 1 ≤ l1 ∧ l1 ≤ 60) (hK62 : ∀ (g : zi_M), zk_I g → zk_fr fr_M_goes g0 g → K62 g) (hQ : ∀ (v : Int) (g' : zi_M), zk_I g' → zk_fr fr_M_goes g0 g' → Q v g') : ∀ (n : Nat) {l3 : Int} {g : zi_M}, zk_I g → zk_fr fr_M_goes g0 g → (0 ≤ l3 ∧ l3 ≤ 60) → 60 - l3 < (n : Int) → w_M_goes_l46 l1 K62 Q n l3 g
  | 0, l3, g, I, F, b0, hm => by exfalso; omega
  | n + 1, l3, g, I, F, b0, hm => by
    unfold w_M_goes_l46
    refine ⟨⟨by omega, by omega⟩, ⟨by omega, by omega⟩, ?_⟩
    refine ⟨fun c16 => ?_, fun c16 => ?_⟩
    · exact hK62 _ I F
    · refine k_M_goesBy I (fun v13 g14 I_14 F_15 b_13 => ?_)
      have F_16 : zk_fr fr_M_goes g0 g14 := zk_ft F F_15 (fun a i => (fun h => Or.elim h (fun h => (Or.inr (Or.inr (Or.inl h)))) (fun h => Or.elim h (fun h => (Or.inr (Or.inr (Or.inr (Or.inl h))))) (fun h => Or.elim h (fun h => (Or.inr (Or.inr (Or.inr (Or.inr (Or.inl h)))))) (fun h => Or.elim h (fun h => (Or.inr (Or.inr (Or.inr (Or.inr (Or.inr (Or.inl h))))))) (fun h => Or.elim h (fun h => (Or.inr (Or.inr (Or.inr (Or.inr (Or.inr (Or.inr (Or.inl h)))))))) (fun h => Or.elim h (fun h => (Or.inr (Or.inr (Or.inr (Or.inr (Or.inr (Or.inr (Or.inr (Or.inr (Or.inl h)))))))))) (fun h => Or.elim h (fun h => (Or.inl h.1)) (fun h => Or.elim h (fun h => (Or.inl h.1)) (fun h => Or.elim h (fun h => (Or.inl h.1)) (fun h => Or.elim h (fun h => (Or.inl h.1)) (fun h => Or.elim h (fun h => (Or.inl h.1)) (fun h => Or.elim h (fun h => (Or.inl h.1)) (fun h => Or.elim h (fun h => (Or.inl h.1)) (fun h => Or.elim h (fun h => (Or.inl h.1)) (fun h => Or.elim h (fun h => (Or.inl h.1)) (fun h => Or.elim h (fun h => (Or.inl h.1)) (fun h => Or.elim h (fun h => (Or.inl h.1)) (fun h => Or.elim h (fun h => (Or.inl h.1)) (fun h => Or.elim h (fun h => (Or.inl h.1)) (fun h => (Or.inl h.1))))))))))))))))))))))
      exact k_M_goes_l46 q1 hK62 hQ n I_14 F_16 ⟨by omega, by omega⟩ (by omega)
set_option maxRecDepth 100000 in
set_option maxHeartbeats 4000000 in
theorem k_M_goes_l67 {K95 : Int → zi_M → Prop} {Q : Int → zi_M → Prop} {g0 : zi_M} (hK95 : ∀ (k3 : Int) (g : zi_M), zk_I g → zk_fr fr_M_goes g0 g → K95 k3 g) (hQ : ∀ (v : Int) (g' : zi_M), zk_I g' → zk_fr fr_M_goes g0 g' → Q v g') : ∀ (n : Nat) {l3 : Int} {l4 : Int} {g : zi_M}, zk_I g → zk_fr fr_M_goes g0 g → (0 ≤ l4 ∧ l4 ≤ 10) → 10 - l4 < (n : Int) → w_M_goes_l67 K95 Q n l3 l4 g
  | 0, l3, l4, g, I, F, b0, hm => by exfalso; omega
  | n + 1, l3, l4, g, I, F, b0, hm => by
    unfold w_M_goes_l67
    have m_19 : 0 ≤ (g 214 6) ∧ (g 214 6) ≤ 10 := I.1 214 6
    refine ⟨⟨by omega, by omega⟩, ⟨by omega, by omega⟩, ?_⟩
    refine ⟨fun c21 => ?_, fun c21 => ?_⟩
    · exact hK95 _ _ I F
    · refine ⟨⟨by omega, by omega⟩, ?_⟩
      have m_20 := zk_now26 I (i := (26 + l4)) (by omega)
      have m_21 := zi_r_w (l3 + (g 215 (26 + l4)))
      exact k_M_goes_l67 hK95 hQ n I F ⟨by omega, by omega⟩ (by omega)
set_option maxRecDepth 100000 in
set_option maxHeartbeats 4000000 in
theorem k_M_goes {l1 : Int} {l2 : Int} {g : zi_M} {Q : Int → zi_M → Prop} (I : zk_I g) (p1 : (-2147483648) ≤ l1 ∧ l1 ≤ 2147483647) (p2 : (-2147483648) ≤ l2 ∧ l2 ≤ 2147483647) (hQ : ∀ (v : Int) (g' : zi_M), zk_I g' → zk_fr fr_M_goes g g' → Q v g') : w_M_goes l1 l2 g Q := by
  unfold w_M_goes
  intro g1 e_1
  have I_2 : zk_I g1 := by rw [e_1]; exact zk_upd (L := (-2147483648)) (H := 2147483647) rfl rfl I ⟨by omega, by omega⟩
  have F_3 : zk_fr fr_M_goes g g1 := by rw [e_1]; exact zk_fu (zk_f0 _) (Or.inr (Or.inr (Or.inr (Or.inr (Or.inr (Or.inr (Or.inr (Or.inl ⟨rfl, rfl⟩))))))))
  refine k_M_isIn I_2 ⟨by omega, by omega⟩ ⟨by omega, by omega⟩ ⟨by omega, by omega⟩ (fun v2 b_4 b_5 b_6 => ?_)
  refine ⟨fun c73 => ?_, fun c73 => ?_⟩
  · exact hQ _ _ I_2 F_3
  · refine k_M_isIn I_2 ⟨by omega, by omega⟩ ⟨by omega, by omega⟩ ⟨by omega, by omega⟩ (fun v5 b_7 b_8 b_9 => ?_)
    refine ⟨fun c72 => ?_, fun c72 => ?_⟩
    · refine k_M_thinks I_2 (fun g9 I_10 F_11 => ?_)
      have F_12 : zk_fr fr_M_goes g g9 := zk_ft F_3 F_11 (fun a i => (fun h => Or.elim h (fun h => (Or.inr (Or.inl h))) (fun h => (Or.inr (Or.inr (Or.inr (Or.inr (Or.inr (Or.inr (Or.inr (Or.inr (Or.inr h))))))))))))
      refine ⟨((60 - 0 : Int).toNat + 1), k_M_goes_l46 (l1 := l1) ⟨by omega, by omega⟩ (fun g17 I_17 F_18 => ?_) hQ ((60 - 0 : Int).toNat + 1) I_10 F_12 ⟨by omega, by omega⟩ (by omega)⟩
      refine ⟨((10 - 0 : Int).toNat + 1), k_M_goes_l67 (fun k22 g23 I_22 F_23 => ?_) hQ ((10 - 0 : Int).toNat + 1) I_17 F_18 ⟨by omega, by omega⟩ (by omega)⟩
      refine ⟨⟨by omega, by omega⟩, ?_⟩
      refine ⟨fun c40 => ?_, fun c40 => ?_⟩
      · refine ⟨fun c36 => ?_, fun c36 => ?_⟩
        · refine ⟨fun c32 => ?_, fun c32 => ?_⟩
          · refine ⟨⟨by omega, by omega⟩, ?_⟩
            refine k_M_endsThought I_22 (fun g27 I_24 F_25 => ?_)
            have F_26 : zk_fr fr_M_goes g g27 := zk_ft F_23 F_25 (fun a i => (fun h => Or.elim h (fun h => (Or.inl h)) (fun h => (Or.inr (Or.inr (Or.inr (Or.inr (Or.inr (Or.inr (Or.inr (Or.inr (Or.inr h))))))))))))
            have m_27 := zk_rng I_22 215 ((258 + l2) - 10)
            exact hQ _ _ I_24 F_26
          · refine k_M_endsThought I_22 (fun g30 I_28 F_29 => ?_)
            have F_30 : zk_fr fr_M_goes g g30 := zk_ft F_23 F_29 (fun a i => (fun h => Or.elim h (fun h => (Or.inl h)) (fun h => (Or.inr (Or.inr (Or.inr (Or.inr (Or.inr (Or.inr (Or.inr (Or.inr (Or.inr h))))))))))))
            exact hQ _ _ I_28 F_30
        · refine k_M_endsThought I_22 (fun g34 I_31 F_32 => ?_)
          have F_33 : zk_fr fr_M_goes g g34 := zk_ft F_23 F_32 (fun a i => (fun h => Or.elim h (fun h => (Or.inl h)) (fun h => (Or.inr (Or.inr (Or.inr (Or.inr (Or.inr (Or.inr (Or.inr (Or.inr (Or.inr h))))))))))))
          have m_34 := zk_rng I_22 215 5
          exact hQ _ _ I_31 F_33
      · refine k_M_endsThought I_22 (fun g38 I_35 F_36 => ?_)
        have F_37 : zk_fr fr_M_goes g g38 := zk_ft F_23 F_36 (fun a i => (fun h => Or.elim h (fun h => (Or.inl h)) (fun h => (Or.inr (Or.inr (Or.inr (Or.inr (Or.inr (Or.inr (Or.inr (Or.inr (Or.inr h))))))))))))
        have m_38 := zk_rng I_22 215 4
        exact hQ _ _ I_35 F_37
    · refine k_M_isIn I_2 ⟨by omega, by omega⟩ ⟨by omega, by omega⟩ ⟨by omega, by omega⟩ (fun v43 b_39 b_40 b_41 => ?_)
      refine ⟨fun c71 => ?_, fun c71 => ?_⟩
      · refine k_M_thinks I_2 (fun g47 I_42 F_43 => ?_)
        have F_44 : zk_fr fr_M_goes g g47 := zk_ft F_3 F_43 (fun a i => (fun h => Or.elim h (fun h => (Or.inr (Or.inl h))) (fun h => (Or.inr (Or.inr (Or.inr (Or.inr (Or.inr (Or.inr (Or.inr (Or.inr (Or.inr h))))))))))))
        refine ⟨((60 - 0 : Int).toNat + 1), k_M_goes_l46 (l1 := l1) ⟨by omega, by omega⟩ (fun g49 I_45 F_46 => ?_) hQ ((60 - 0 : Int).toNat + 1) I_42 F_44 ⟨by omega, by omega⟩ (by omega)⟩
        refine ⟨((10 - 0 : Int).toNat + 1), k_M_goes_l67 (fun k50 g51 I_47 F_48 => ?_) hQ ((10 - 0 : Int).toNat + 1) I_45 F_46 ⟨by omega, by omega⟩ (by omega)⟩
        refine ⟨⟨by omega, by omega⟩, ?_⟩
        refine ⟨fun c68 => ?_, fun c68 => ?_⟩
        · refine ⟨fun c64 => ?_, fun c64 => ?_⟩
          · refine ⟨fun c60 => ?_, fun c60 => ?_⟩
            · refine ⟨⟨by omega, by omega⟩, ?_⟩
              refine k_M_endsThought I_47 (fun g55 I_49 F_50 => ?_)
              have F_51 : zk_fr fr_M_goes g g55 := zk_ft F_48 F_50 (fun a i => (fun h => Or.elim h (fun h => (Or.inl h)) (fun h => (Or.inr (Or.inr (Or.inr (Or.inr (Or.inr (Or.inr (Or.inr (Or.inr (Or.inr h))))))))))))
              have m_52 := zk_rng I_47 215 ((258 + l2) - 10)
              exact hQ _ _ I_49 F_51
            · refine k_M_endsThought I_47 (fun g58 I_53 F_54 => ?_)
              have F_55 : zk_fr fr_M_goes g g58 := zk_ft F_48 F_54 (fun a i => (fun h => Or.elim h (fun h => (Or.inl h)) (fun h => (Or.inr (Or.inr (Or.inr (Or.inr (Or.inr (Or.inr (Or.inr (Or.inr (Or.inr h))))))))))))
              exact hQ _ _ I_53 F_55
          · refine k_M_endsThought I_47 (fun g62 I_56 F_57 => ?_)
            have F_58 : zk_fr fr_M_goes g g62 := zk_ft F_48 F_57 (fun a i => (fun h => Or.elim h (fun h => (Or.inl h)) (fun h => (Or.inr (Or.inr (Or.inr (Or.inr (Or.inr (Or.inr (Or.inr (Or.inr (Or.inr h))))))))))))
            have m_59 := zk_rng I_47 215 5
            exact hQ _ _ I_56 F_58
        · refine k_M_endsThought I_47 (fun g66 I_60 F_61 => ?_)
          have F_62 : zk_fr fr_M_goes g g66 := zk_ft F_48 F_61 (fun a i => (fun h => Or.elim h (fun h => (Or.inl h)) (fun h => (Or.inr (Or.inr (Or.inr (Or.inr (Or.inr (Or.inr (Or.inr (Or.inr (Or.inr h))))))))))))
          have m_63 := zk_rng I_47 215 4
          exact hQ _ _ I_60 F_62
      · exact hQ _ _ I_2 F_3
-- SpoutNews.isWord(I)Z
set_option maxRecDepth 100000 in
set_option maxHeartbeats 4000000 in
theorem k_S_isWord {l0 : Int} {g : zi_M} {Q : Int → zi_M → Prop} (I : zk_I g) (p0 : (-2147483648) ≤ l0 ∧ l0 ≤ 2147483647) (hQ : ∀ v : Int, (l0 < 0 → v = 0) → (0 ≤ l0 → 16 ≤ l0 → v = 0) → (0 ≤ l0 → l0 < 16 → v = 1) → Q v g) : w_S_isWord l0 g Q := by
  unfold w_S_isWord
  refine ⟨⟨by omega, by omega⟩, ?_⟩
  refine ⟨fun c3 => ?_, fun c3 => ?_⟩
  · exact hQ _ (by intros; omega) (by intros; omega) (by intros; omega)
  · refine ⟨fun c2 => ?_, fun c2 => ?_⟩
    · exact hQ _ (by intros; omega) (by intros; omega) (by intros; omega)
    · exact hQ _ (by intros; omega) (by intros; omega) (by intros; omega)
-- SpoutNews$Thought.reach(LSpoutNews$Texts;I)I
theorem k_Thought_reach_l8 {g : zi_M} {q : Int} {K42 : Int → zi_M → Prop} {Q : Int → zi_M → Prop} (I : zk_I g) (hK : ∀ s : Int, ((-2147483648) ≤ s ∧ s ≤ 2147483647) → ((-1) ≤ q → q ≤ 9 → zeR (zeg g) q s) → K42 s g) :
    ∀ (n : Nat) (l3 l4 l5 : Int), (0 ≤ l5 ∧ l5 ≤ 10) → ((-2147483648) ≤ l3 ∧ l3 ≤ 2147483647) → ((-2147483648) ≤ l4 ∧ l4 ≤ 2147483647) → ((-1) ≤ q → q ≤ 9 → zRc (zeg g) q l5 l3 l4) → 10 - l5 < (n : Int) → w_Thought_reach_l8 K42 Q n l3 l4 l5 g
  | 0, l3, l4, l5, b0, b1, b2, b3, hm => by exfalso; omega
  | n + 1, l3, l4, l5, b0, b1, b2, b3, hm => by
    unfold w_Thought_reach_l8
    refine ⟨⟨by omega, by omega⟩, fun c10 => hK l3 b1 (fun a b => zRc_10 (b3 a b) (by omega)), fun c => ⟨b2, fun e => hK l3 b1 (fun a b => zRc_m (zeg_m g) b0.1 b0.2 (b3 a b) e), fun ne => ?_⟩⟩
    refine k_Texts_gutterOf I b2 (fun v3 d1 d2 d3 => ?_)
    have ev := zeg_v d1 d2 d3
    have vb := zeg_b I l4
    rw [← ev] at vb
    have r := zi_r_or l3 (zi_shl 1 l4)
    have r' : (-2147483648) ≤ zi_or l3 (zi_shl 1 l4) ∧ zi_or l3 (zi_shl 1 l4) ≤ 2147483647 := r
    refine k_Thought_reach_l8 I hK n _ _ _ ⟨by omega, by omega⟩ r' ⟨by omega, by omega⟩ (fun a b => ?_) (by omega)
    have z := b3 a b
    have lb := zit_B (zeg_b I) (p := q) ⟨by omega, b⟩ l5.toNat
    rw [← z.2.2] at lb
    exact zRc_s z b0.1 ⟨by omega, lb.2⟩ ev
theorem k_Thought_reach {l2 : Int} {g : zi_M} {Q : Int → zi_M → Prop} (I : zk_I g) (p2 : (-2147483648) ≤ l2 ∧ l2 ≤ 2147483647) (hQ : ∀ v : Int, ((-2147483648) ≤ v ∧ v ≤ 2147483647) → ((-1) ≤ l2 → l2 ≤ 9 → zeR (zeg g) l2 v) → Q v g) : w_Thought_reach l2 g Q := by
  unfold w_Thought_reach
  exact ⟨11, k_Thought_reach_l8 I (fun s hs h => hQ s hs h) 11 0 l2 0 ⟨by decide, by decide⟩ ⟨by decide, by decide⟩ p2 (fun _ _ => zRc_0) (by decide)⟩

-- SpoutNews$Thought.tellers(LSpoutNews$World;LSpoutNews$Texts;II)I
set_option maxRecDepth 100000 in
set_option maxHeartbeats 4000000 in
theorem k_Thought_tellers_l6 {g : zi_M} (I : zk_I g) {l3 : Int} {l4 : Int} {K66 : Int → zi_M → Prop} {Q : Int → zi_M → Prop} (q3 : (-2147483648) ≤ l3 ∧ l3 ≤ 2147483647) (q4 : (-2147483648) ≤ l4 ∧ l4 ≤ 2147483647) (hK66 : ∀ (k5 : Int), (0 ≤ k5 ∧ k5 ≤ 255) → K66 k5 g) (hQ : ∀ v : Int, (0 ≤ v ∧ v ≤ 255) → Q v g) : ∀ (n : Nat) {l5 : Int} {l6 : Int}, (0 ≤ l5 ∧ l5 ≤ 255) → (0 ≤ l6 ∧ l6 ≤ 8) → 8 - l6 < (n : Int) → w_Thought_tellers_l6 l3 l4 K66 Q n l5 l6 g
  | 0, l5, l6, b0, b1, hm => by exfalso; omega
  | n + 1, l5, l6, b0, b1, hm => by
    unfold w_Thought_tellers_l6
    have m_1 : 0 ≤ (g 2 11) ∧ (g 2 11) ≤ 8 := I.1 2 11
    refine ⟨⟨by omega, by omega⟩, ⟨by omega, by omega⟩, ?_⟩
    refine ⟨fun c9 => ?_, fun c9 => ?_⟩
    · exact hK66 _ ⟨by omega, by omega⟩
    · refine ⟨⟨by omega, by omega⟩, ?_⟩
      have m_2 : (-2147483648) ≤ (g 10 l6) ∧ (g 10 l6) ≤ 2147483647 := I.1 10 l6
      have m_3 := zi_r_shr (g 10 l6) l3
      try have m_4 := (zi_shr_f (g 10 l6) l3).2 ⟨by omega, by omega⟩
      have m_5 := zi_r_and (zi_shr (g 10 l6) l3) 1
      try have m_6 := (zi_and_f (zi_shr (g 10 l6) l3) 1).2.1 ⟨by omega, by omega⟩
      try have m_7 := (zi_and_f (zi_shr (g 10 l6) l3) 1).2.2 ⟨by omega, by omega⟩
      refine ⟨fun c8 => ?_, fun c8 => ?_⟩
      · exact k_Thought_tellers_l6 I q3 q4 hK66 hQ n ⟨by omega, by omega⟩ ⟨by omega, by omega⟩ (by omega)
      · have m_8 : (-1) ≤ (g 11 l6) ∧ (g 11 l6) ≤ 9 := I.1 11 l6
        refine k_Thought_reach I ⟨by omega, by omega⟩ (fun v4 b_9 b_10 => ?_)
        have m_11 := zi_r_shr v4 l4
        try have m_12 := (zi_shr_f v4 l4).2 ⟨by omega, by omega⟩
        have m_13 := zi_r_and (zi_shr v4 l4) 1
        try have m_14 := (zi_and_f (zi_shr v4 l4) 1).2.1 ⟨by omega, by omega⟩
        try have m_15 := (zi_and_f (zi_shr v4 l4) 1).2.2 ⟨by omega, by omega⟩
        refine ⟨fun c7 => ?_, fun c7 => ?_⟩
        · exact k_Thought_tellers_l6 I q3 q4 hK66 hQ n ⟨by omega, by omega⟩ ⟨by omega, by omega⟩ (by omega)
        · have m_16 := zi_r_shl 1 l6
          try have m_17 := (zi_shl_f l6).2.1 ⟨by omega, by omega⟩
          first | have m_18 := (zi_shl_f l6).2.2.1 ⟨by omega, by omega⟩ | have m_19 := (zi_shl_f l6).2.2.2.1 ⟨by omega, by omega⟩ | have m_20 := (zi_shl_f l6).2.2.2.2.1 ⟨by omega, by omega⟩ | have m_21 := (zi_shl_f l6).2.2.2.2.2.1 ⟨by omega, by omega⟩ | have m_22 := (zi_shl_f l6).2.2.2.2.2.2 ⟨by omega, by omega⟩ | skip
          first | have m_23 := (zi_or_f l5 (zi_shl 1 l6)).2.1 ⟨by omega, by omega, by omega, by omega⟩ | have m_23 := (zi_or_f l5 (zi_shl 1 l6)).2.2.1 ⟨by omega, by omega, by omega, by omega⟩ | have m_23 := (zi_or_f l5 (zi_shl 1 l6)).2.2.2.1 ⟨by omega, by omega, by omega, by omega⟩ | have m_23 := (zi_or_f l5 (zi_shl 1 l6)).2.2.2.2.1 ⟨by omega, by omega, by omega, by omega⟩ | have m_23 := (zi_or_f l5 (zi_shl 1 l6)).2.2.2.2.2 ⟨by omega, by omega, by omega, by omega⟩ | have m_23 := zi_r_or l5 (zi_shl 1 l6)
          exact k_Thought_tellers_l6 I q3 q4 hK66 hQ n ⟨by omega, by omega⟩ ⟨by omega, by omega⟩ (by omega)
set_option maxRecDepth 100000 in
set_option maxHeartbeats 4000000 in
theorem k_Thought_tellers {l3 : Int} {l4 : Int} {g : zi_M} {Q : Int → zi_M → Prop} (I : zk_I g) (p3 : (-2147483648) ≤ l3 ∧ l3 ≤ 2147483647) (p4 : (-2147483648) ≤ l4 ∧ l4 ≤ 2147483647) (hQ : ∀ v : Int, (0 ≤ v ∧ v ≤ 255) → Q v g) : w_Thought_tellers l3 l4 g Q := by
  unfold w_Thought_tellers
  refine ⟨((8 - 0 : Int).toNat + 1), k_Thought_tellers_l6 (l3 := l3) (l4 := l4) I ⟨by omega, by omega⟩ ⟨by omega, by omega⟩ (fun k10 b_24 => ?_) hQ ((8 - 0 : Int).toNat + 1) ⟨by omega, by omega⟩ ⟨by omega, by omega⟩ (by omega)⟩
  exact hQ _ ⟨by omega, by omega⟩
-- SpoutNews.told(II)I
set_option maxRecDepth 100000 in
set_option maxHeartbeats 4000000 in
theorem k_S_told {l1 : Int} {l2 : Int} {g : zi_M} {Q : Int → zi_M → Prop} (I : zk_I g) (p1 : (-2147483648) ≤ l1 ∧ l1 ≤ 2147483647) (p2 : (-2147483648) ≤ l2 ∧ l2 ≤ 2147483647) (hQ : ∀ v : Int, ((-1) ≤ v ∧ v ≤ 255) → Q v g) : w_S_told l1 l2 g Q := by
  unfold w_S_told
  refine k_S_isWord I ⟨by omega, by omega⟩ (fun v1 b_1 b_2 b_3 => ?_)
  refine ⟨fun c11 => ?_, fun c11 => ?_⟩
  · exact hQ _ ⟨by omega, by omega⟩
  · have m_7 : 0 ≤ (g 2 8) ∧ (g 2 8) ≤ 10 := I.1 2 8
    refine k_World_isSpout rfl I ⟨by omega, by omega⟩ (fun v4 b_4 b_5 b_6 => ?_)
    try simp only [Nat.reduceAdd] at b_4 b_5 b_6
    refine ⟨fun c10 => ?_, fun c10 => ?_⟩
    · refine k_Thought_tellers I ⟨by omega, by omega⟩ ⟨by omega, by omega⟩ (fun v7 b_8 => ?_)
      exact hQ _ ⟨by omega, by omega⟩
    · exact hQ _ ⟨by omega, by omega⟩
-- SpoutNewsModel.passedFrom(I)I
set_option maxRecDepth 100000 in
set_option maxHeartbeats 4000000 in
theorem k_M_passedFrom_l4 {g : zi_M} (I : zk_I g) {K33 : Int → zi_M → Prop} {Q : Int → zi_M → Prop} (hK33 : ∀ (k2 : Int), (0 ≤ k2 ∧ k2 ≤ 1023) → K33 k2 g) (hQ : ∀ v : Int, (0 ≤ v ∧ v ≤ 1023) → Q v g) : ∀ (n : Nat) {l2 : Int} {l3 : Int}, (0 ≤ l2 ∧ l2 ≤ 1023) → ((-1) ≤ l3 ∧ l3 ≤ 9) → 1023 - l2 < (n : Int) → w_M_passedFrom_l4 K33 Q n l2 l3 g
  | 0, l2, l3, b0, b1, hm => by exfalso; omega
  | n + 1, l2, l3, b0, b1, hm => by
    unfold w_M_passedFrom_l4
    refine ⟨⟨by omega, by omega⟩, ?_⟩
    refine ⟨fun c9 => ?_, fun c9 => ?_⟩
    · exact hK33 _ ⟨by omega, by omega⟩
    · have m_3 := zi_r_shr (l2) (l3)
      try have m_4 := (zi_shr_f (l2) (l3)).2 ⟨by omega, by omega⟩
      have m_5 := zi_r_and (zi_shr l2 l3) 1
      try have m_6 := (zi_and_f (zi_shr l2 l3) 1).2.1 ⟨by omega, by omega⟩
      try have m_7 := (zi_and_f (zi_shr l2 l3) 1).2.2 ⟨by omega, by omega⟩
      refine k_M_has I ⟨by omega, by omega⟩ ⟨by omega, by omega⟩ (fun v2 b_1 b_2 => ?_)
      refine ⟨fun c8 => ?_, fun c8 => ?_⟩
      · exact hK33 _ ⟨by omega, by omega⟩
      · have m_9 : 0 ≤ (g 232 (l3)) ∧ (g 232 (l3)) ≤ 10 := I.1 232 (l3)
        refine k_M_into I ⟨by omega, by omega⟩ (fun v5 b_8 => ?_)
        have m_10 := zi_r_shl 1 l3
        try have m_11 := (zi_shl_f l3).2.1 ⟨by omega, by omega⟩
        first | have m_12 := (zi_shl_f l3).2.2.1 ⟨by omega, by omega⟩ | have m_13 := (zi_shl_f l3).2.2.2.1 ⟨by omega, by omega⟩ | have m_14 := (zi_shl_f l3).2.2.2.2.1 ⟨by omega, by omega⟩ | have m_15 := (zi_shl_f l3).2.2.2.2.2.1 ⟨by omega, by omega⟩ | have m_16 := (zi_shl_f l3).2.2.2.2.2.2 ⟨by omega, by omega⟩ | skip
        have m_17 := (zi_or_f l2 (zi_shl 1 l3)).2.2.2.1 ⟨by omega, by omega, by omega, by omega⟩
        have m_18 := zi_or_new (s := l2) (k := l3) ⟨by omega, by omega⟩ ⟨by omega, by omega⟩ (by omega)
        exact k_M_passedFrom_l4 I hK33 hQ n ⟨by omega, by omega⟩ ⟨by omega, by omega⟩ (by omega)
set_option maxRecDepth 100000 in
set_option maxHeartbeats 4000000 in
theorem k_M_passedFrom {l1 : Int} {g : zi_M} {Q : Int → zi_M → Prop} (I : zk_I g) (p1 : 0 ≤ l1 ∧ l1 ≤ 9) (hQ : ∀ v : Int, (0 ≤ v ∧ v ≤ 1023) → Q v g) : w_M_passedFrom l1 g Q := by
  unfold w_M_passedFrom
  refine ⟨((1023 - 0 : Int).toNat + 1), k_M_passedFrom_l4 I (fun k10 b_19 => ?_) hQ ((1023 - 0 : Int).toNat + 1) ⟨by omega, by omega⟩ ⟨by omega, by omega⟩ (by omega)⟩
  exact hQ _ ⟨by omega, by omega⟩
