-- by program (wip/gen/mkz.py)
-- SpoutNewsModel.goesBy()I
set_option maxRecDepth 100000 in
set_option maxHeartbeats 4000000 in
theorem k_M_goesBy_l2 {K67 : zi_M → Prop} {Q : Int → zi_M → Prop} {g0 : zi_M} (hK67 : ∀ (g : zi_M), zk_I g → zk_fr fr_M_goesBy g0 g → (zQE g0 g) → (g 215 4 = g0 215 4) → K67 g) (hQ : ∀ (v : Int) (g' : zi_M), zk_I g' → zk_fr fr_M_goesBy g0 g' → ((-2147483648) ≤ v ∧ v ≤ 2147483647) → (zQD g0 g') → (v = zi_w (g' 215 4 - g0 215 4)) → Q v g') : ∀ (n : Nat) {l1 : Int} {g : zi_M}, zk_I g → zk_fr fr_M_goesBy g0 g → (0 ≤ l1 ∧ l1 ≤ 16) → (l1 ≤ g0 214 39) → (zk_I g0) → (zQp l1 g0 g) → (g 215 4 = g0 215 4) → 16 - l1 < (n : Int) → w_M_goesBy_l2 K67 Q n l1 g
  | 0, l1, g, I, F, b0, b1, b2, b3, b4, hm => by exfalso; omega
  | n + 1, l1, g, I, F, b0, b1, b2, b3, b4, hm => by
    unfold w_M_goesBy_l2
    have m_1 : 0 ≤ (g 214 39) ∧ (g 214 39) ≤ 16 := I.1 214 39
    refine ⟨⟨by omega, by omega⟩, ⟨by omega, by omega⟩, ?_⟩
    refine ⟨fun c13 => ?_, fun c13 => ?_⟩
    · have m_2 := zk_rng I 215 4
      exact hK67 _ I F (by exact zQp_x b3 (by have hf := (zMfr_b F).2.2.2.2.2; omega)) (by assumption)
    · refine ⟨⟨by omega, by omega⟩, ?_⟩
      have m_3 : (-2147483648) ≤ (g 234 (4 * l1)) ∧ (g 234 (4 * l1)) ≤ 2147483647 := I.1 234 (4 * l1)
      have m_4 := zk_rng I 215 0
      refine ⟨⟨by omega, by omega⟩, ⟨by omega, by omega⟩, ?_⟩
      refine ⟨fun c12 => ?_, fun c12 => ?_⟩
      · have m_5 := zk_rng I 215 4
        exact k_M_goesBy_l2 hK67 hQ n I F ⟨by omega, by omega⟩ (by first | omega | (have hf := (zMfr_b F).2.2.2.2.2; omega) | (have hz := zk_r39 I; omega)) (by assumption) (by first | exact zQp_0 | exact zQp_n b3 (zMfr_b F) (by omega) (by assumption) | exact zQp_s b3 (zMfr_b F) b2 (by omega) (by omega) (by assumption) (by assumption) (by assumption)) (by first | omega | (have hf := zMa_4 (by assumption); omega)) (by omega)
      · refine ⟨⟨by omega, by omega⟩, ?_⟩
        refine ⟨⟨by omega, by omega⟩, ?_⟩
        refine ⟨⟨by omega, by omega⟩, ?_⟩
        have m_6 : (-2147483648) ≤ (g 234 ((4 * l1) + 1)) ∧ (g 234 ((4 * l1) + 1)) ≤ 2147483647 := I.1 234 ((4 * l1) + 1)
        have m_7 : (-2147483648) ≤ (g 234 ((4 * l1) + 2)) ∧ (g 234 ((4 * l1) + 2)) ≤ 2147483647 := I.1 234 ((4 * l1) + 2)
        have m_8 : (-2147483648) ≤ (g 234 ((4 * l1) + 3)) ∧ (g 234 ((4 * l1) + 3)) ≤ 2147483647 := I.1 234 ((4 * l1) + 3)
        have hj := I.2.deeds l1 (by omega) (by omega)
        unfold zj_deed at hj
        refine k_M_acts I ⟨by omega, by omega⟩ ⟨by omega, by omega⟩ ⟨by omega, by omega⟩ (by omega) (by omega) (by omega) (by omega) (by omega) (by omega) (fun g10 I_10 F_11 b_9 => ?_)
        have F_12 : zk_fr fr_M_goesBy g0 g10 := zk_ft F F_11 (fun a i => (fun h => Or.elim h (fun h => (Or.inr (Or.inr (Or.inr (Or.inr (Or.inr (Or.inr (Or.inr (Or.inr (Or.inr (Or.inr (Or.inl h)))))))))))) (fun h => Or.elim h (fun h => (Or.inr (Or.inr (Or.inr (Or.inr (Or.inr (Or.inr (Or.inr (Or.inr (Or.inr (Or.inr (Or.inr (Or.inl h))))))))))))) (fun h => Or.elim h (fun h => (Or.inr (Or.inr (Or.inr (Or.inr (Or.inr (Or.inr (Or.inr (Or.inr (Or.inr (Or.inr (Or.inr (Or.inr (Or.inl h)))))))))))))) (fun h => Or.elim h (fun h => (Or.inr (Or.inr (Or.inr (Or.inr (Or.inr (Or.inr (Or.inr (Or.inr (Or.inr (Or.inr (Or.inr (Or.inr (Or.inr (Or.inl h))))))))))))))) (fun h => (Or.inr (Or.inr (Or.inr (Or.inr (Or.inr (Or.inr (Or.inr (Or.inr (Or.inr (Or.inr (Or.inr (Or.inr (Or.inr (Or.inr (Or.inr (Or.inr (Or.inr (Or.inr (Or.inr h)))))))))))))))))))))))))
        have m_13 := zk_rng I_10 215 4
        have m_14 : g10 215 4 = g 215 4 := F_11 _ _ (by unfold fr_M_acts; omega)
        have m_15 := zk_rng I 215 4
        exact k_M_goesBy_l2 hK67 hQ n I_10 F_12 ⟨by omega, by omega⟩ (by first | omega | (have hf := (zMfr_b F).2.2.2.2.2; omega) | (have hz := zk_r39 I; omega)) (by assumption) (by first | exact zQp_0 | exact zQp_n b3 (zMfr_b F) (by omega) (by assumption) | exact zQp_s b3 (zMfr_b F) b2 (by omega) (by omega) (by assumption) (by assumption) (by assumption)) (by first | omega | (have hf := zMa_4 (by assumption); omega)) (by omega)
set_option maxRecDepth 100000 in
set_option maxHeartbeats 4000000 in
theorem k_M_goesBy_l118 {K137 : zi_M → Prop} {Q : Int → zi_M → Prop} {g0 : zi_M} (hK137 : ∀ (g : zi_M), zk_I g → zk_fr fr_M_goesBy g0 g → (zQb g0 g) → (0 = zi_w (g 215 4 - g0 215 4)) → K137 g) (hQ : ∀ (v : Int) (g' : zi_M), zk_I g' → zk_fr fr_M_goesBy g0 g' → ((-2147483648) ≤ v ∧ v ≤ 2147483647) → (zQD g0 g') → (v = zi_w (g' 215 4 - g0 215 4)) → Q v g') : ∀ (n : Nat) {l2 : Int} {g : zi_M}, zk_I g → zk_fr fr_M_goesBy g0 g → (0 ≤ l2 ∧ l2 ≤ 10) → (l2 ≤ g0 214 6) → (zQo l2 g0 g) → (g 215 4 = g0 215 4) → 10 - l2 < (n : Int) → w_M_goesBy_l118 K137 Q n l2 g
  | 0, l2, g, I, F, b0, b1, b2, b3, hm => by exfalso; omega
  | n + 1, l2, g, I, F, b0, b1, b2, b3, hm => by
    unfold w_M_goesBy_l118
    have m_24 : 0 ≤ (g 214 6) ∧ (g 214 6) ≤ 10 := I.1 214 6
    refine ⟨⟨by omega, by omega⟩, ⟨by omega, by omega⟩, ?_⟩
    refine ⟨fun c25 => ?_, fun c25 => ?_⟩
    · have m_25 := zk_rng I 215 4
      exact hK137 _ I F (by exact zQo_x b2 (by have hf := (zMfr_b F).2.2.1; omega)) (by exact zi_w_0 (by assumption))
    · refine k_M_isDry I ⟨by omega, by omega⟩ (fun g23 I_27 F_28 b_26 => ?_)
      have F_29 : zk_fr fr_M_goesBy g0 g23 := zk_ft F F_28 (fun a i => (fun h => Or.elim h (fun h => (Or.inl h)) (fun h => Or.elim h (fun h => (Or.inr (Or.inl h))) (fun h => Or.elim h (fun h => (Or.inr (Or.inr (Or.inl h)))) (fun h => Or.elim h (fun h => (Or.inr (Or.inr (Or.inr (Or.inr (Or.inr (Or.inr (Or.inr (Or.inr (Or.inl h)))))))))) (fun h => Or.elim h (fun h => (Or.inr (Or.inr (Or.inr (Or.inr (Or.inr (Or.inr (Or.inr (Or.inr (Or.inr (Or.inl h))))))))))) (fun h => Or.elim h (fun h => (Or.inr (Or.inr (Or.inr (Or.inr (Or.inr (Or.inr (Or.inr (Or.inr (Or.inr (Or.inr (Or.inr (Or.inr (Or.inr (Or.inr (Or.inl h)))))))))))))))) (fun h => (Or.inr (Or.inr (Or.inr (Or.inr (Or.inr (Or.inr (Or.inr (Or.inr (Or.inr (Or.inr (Or.inr (Or.inr (Or.inr (Or.inr (Or.inr (Or.inr (Or.inl h)))))))))))))))))))))))))
      have m_30 := zk_rng I_27 215 4
      have m_31 : g23 215 4 = g 215 4 := F_28 _ _ (by unfold fr_M_isDry; omega)
      have m_32 := zk_rng I 215 4
      exact k_M_goesBy_l118 hK137 hQ n I_27 F_29 ⟨by omega, by omega⟩ (by first | omega | (have hf := (zMfr_b F).2.2.1; omega) | (have hf := (zMfr_b F).2.2.1; have hz := zk_r6 I; omega)) (by first | exact zQo_s b2 (zMfr_b F) (by omega) (by assumption) (by assumption) | exact zQo_0 ix0 (zMfr_b F) (by assumption)) (by first | assumption | (have hf := zMd_4 (by assumption); omega)) (by omega)
set_option maxRecDepth 100000 in
set_option maxHeartbeats 4000000 in
theorem k_M_goesBy_b137 {l1 : Int} {Q : Int → zi_M → Prop} {g : zi_M} {g0 : zi_M} (I : zk_I g) (F : zk_fr fr_M_goesBy g0 g) (p1 : (-2147483648) ≤ l1 ∧ l1 ≤ 2147483647) (ix0 : zQb g0 g) (ix1 : l1 = zi_w (g 215 4 - g0 215 4)) (hQ : ∀ (v : Int) (g' : zi_M), zk_I g' → zk_fr fr_M_goesBy g0 g' → ((-2147483648) ≤ v ∧ v ≤ 2147483647) → (zQD g0 g') → (v = zi_w (g' 215 4 - g0 215 4)) → Q v g') : w_M_goesBy_b137 l1 g Q := by
  unfold w_M_goesBy_b137
  have m_40 := zk_rng I 215 0
  have m_41 := zi_r_w ((g 215 0) + 1)
  intro g27 e_37
  have I_38 : zk_I g27 := by rw [e_37]; exact zk_upd (zk_nl0 (i := 0) (by omega)).1 (zk_nl0 (i := 0) (by omega)).2 I ⟨by omega, by omega⟩
  have F_39 : zk_fr fr_M_goesBy g0 g27 := by rw [e_37]; exact zk_fu F (Or.inr (Or.inr (Or.inr (Or.inr (Or.inr (Or.inr (Or.inl ⟨rfl, by omega, by omega⟩)))))))
  have m_42 := zk_rng I_38 215 4
  have m_43 : g27 215 4 = g 215 4 := by rw [e_37]; exact zi_u_ni (by decide)
  have m_44 := zk_rng I 215 4
  exact hQ _ _ I_38 F_39 ⟨by omega, by omega⟩ (by exact zQD_of ix0 (by assumption)) (by exact zMu_v ix1 (by assumption))
set_option maxRecDepth 100000 in
set_option maxHeartbeats 4000000 in
theorem k_M_goesBy_b97 {Q : Int → zi_M → Prop} {g : zi_M} {g0 : zi_M} (I : zk_I g) (F : zk_fr fr_M_goesBy g0 g) (ix0 : zQr g0 g) (ix1 : g 215 4 = g0 215 4) (hQ : ∀ (v : Int) (g' : zi_M), zk_I g' → zk_fr fr_M_goesBy g0 g' → ((-2147483648) ≤ v ∧ v ≤ 2147483647) → (zQD g0 g') → (v = zi_w (g' 215 4 - g0 215 4)) → Q v g') : w_M_goesBy_b97 g Q := by
  unfold w_M_goesBy_b97
  have m_23 := zk_rng I 215 3
  refine ⟨⟨by omega, by omega⟩, ?_⟩
  refine ⟨fun c32 => ?_, fun c32 => ?_⟩
  · have m_46 := zk_rng I 215 4
    refine ⟨((10 - 0 : Int).toNat + 1), k_M_goesBy_l118 (fun g26 I_33 F_34 b_35 b_36 => ?_) hQ ((10 - 0 : Int).toNat + 1) I F ⟨by omega, by omega⟩ (by first | omega | (have hf := (zMfr_b F).2.2.1; omega) | (have hf := (zMfr_b F).2.2.1; have hz := zk_r6 I; omega)) (by first | exact zQo_s b2 (zMfr_b F) (by omega) (by assumption) (by assumption) | exact zQo_0 ix0 (zMfr_b F) (by assumption)) (by first | assumption | (have hf := zMd_4 (by assumption); omega)) (by omega)⟩
    have m_45 := zk_rng I_33 215 4
    exact k_M_goesBy_b137 I_33 F_34 ⟨by omega, by omega⟩ (by first | assumption | exact zQb_r ix0 (zMfr_b F) (by assumption) (by assumption) (by assumption)) (by first | assumption | exact zMw_4 ix1 (by assumption)) hQ
  · have m_47 := zk_rng I 215 4
    refine k_M_rains I (fun v29 g30 I_51 F_52 b_48 b_49 b_50 => ?_)
    have F_53 : zk_fr fr_M_goesBy g0 g30 := zk_ft F F_52 (fun a i => (fun h => Or.elim h (fun h => (Or.inl h)) (fun h => Or.elim h (fun h => (Or.inr (Or.inl h))) (fun h => Or.elim h (fun h => (Or.inr (Or.inr (Or.inl h)))) (fun h => Or.elim h (fun h => (Or.inr (Or.inr (Or.inr (Or.inl h))))) (fun h => Or.elim h (fun h => (Or.inr (Or.inr (Or.inr (Or.inr (Or.inl h)))))) (fun h => Or.elim h (fun h => (Or.inr (Or.inr (Or.inr (Or.inr (Or.inr (Or.inl h))))))) (fun h => Or.elim h (fun h => (Or.inr (Or.inr (Or.inr (Or.inr (Or.inr (Or.inr (Or.inr (Or.inl h))))))))) (fun h => Or.elim h (fun h => (Or.inr (Or.inr (Or.inr (Or.inr (Or.inr (Or.inr (Or.inr (Or.inr (Or.inl h)))))))))) (fun h => Or.elim h (fun h => (Or.inr (Or.inr (Or.inr (Or.inr (Or.inr (Or.inr (Or.inr (Or.inr (Or.inr (Or.inl h))))))))))) (fun h => Or.elim h (fun h => (Or.inr (Or.inr (Or.inr (Or.inr (Or.inr (Or.inr (Or.inr (Or.inr (Or.inr (Or.inr (Or.inr (Or.inr (Or.inr (Or.inl h))))))))))))))) (fun h => Or.elim h (fun h => (Or.inr (Or.inr (Or.inr (Or.inr (Or.inr (Or.inr (Or.inr (Or.inr (Or.inr (Or.inr (Or.inr (Or.inr (Or.inr (Or.inr (Or.inl h)))))))))))))))) (fun h => Or.elim h (fun h => (Or.inr (Or.inr (Or.inr (Or.inr (Or.inr (Or.inr (Or.inr (Or.inr (Or.inr (Or.inr (Or.inr (Or.inr (Or.inr (Or.inr (Or.inr (Or.inr (Or.inl h)))))))))))))))))) (fun h => Or.elim h (fun h => (Or.inr (Or.inr (Or.inr (Or.inr (Or.inr (Or.inr (Or.inr (Or.inr (Or.inr (Or.inr (Or.inr (Or.inr (Or.inr (Or.inr (Or.inr (Or.inr (Or.inr (Or.inl h))))))))))))))))))) (fun h => (Or.inr (Or.inr (Or.inr (Or.inr (Or.inr (Or.inr (Or.inr (Or.inr (Or.inr (Or.inr (Or.inr (Or.inr (Or.inr (Or.inr (Or.inr (Or.inr (Or.inr (Or.inr (Or.inl h))))))))))))))))))))))))))))))))))
    have m_54 := zk_rng I_51 215 4
    exact k_M_goesBy_b137 I_51 F_53 ⟨by omega, by omega⟩ (by first | assumption | exact zQb_r ix0 (zMfr_b F) (by assumption) (by assumption) (by assumption)) (by first | assumption | exact zMw_4 ix1 (by assumption)) hQ
set_option maxRecDepth 100000 in
set_option maxHeartbeats 4000000 in
theorem k_M_goesBy {g : zi_M} {Q : Int → zi_M → Prop} (I : zk_I g) (hQ : ∀ (v : Int) (g' : zi_M), zk_I g' → zk_fr fr_M_goesBy g g' → ((-2147483648) ≤ v ∧ v ≤ 2147483647) → (zQD g g') → (v = zi_w (g' 215 4 - g 215 4)) → Q v g') : w_M_goesBy g Q := by
  unfold w_M_goesBy
  have m_64 := zk_rng I 215 4
  refine ⟨((16 - 0 : Int).toNat + 1), k_M_goesBy_l2 (fun g14 I_16 F_17 b_18 b_19 => ?_) hQ ((16 - 0 : Int).toNat + 1) I (zk_f0 _) ⟨by omega, by omega⟩ (by first | omega | (have hf := (zMfr_b F).2.2.2.2.2; omega) | (have hz := zk_r39 I; omega)) (by assumption) (by first | exact zQp_0 | exact zQp_n b3 (zMfr_b F) (by omega) (by assumption) | exact zQp_s b3 (zMfr_b F) b2 (by omega) (by omega) (by assumption) (by assumption) (by assumption)) (by first | omega | (have hf := zMa_4 (by assumption); omega)) (by omega)⟩
  have m_20 := zk_rng I_16 215 0
  refine k_M_weatherOf I_16 ⟨by omega, by omega⟩ (fun v15 b_21 b_22 => ?_)
  refine ⟨⟨by omega, by omega⟩, ?_⟩
  refine ⟨fun c37 => ?_, fun c37 => ?_⟩
  · have m_55 := zk_rng I_16 215 4
    exact k_M_goesBy_b97 I_16 F_17 (by first | exact zQr_n (by assumption) (by assumption) (by assumption) (zMfr_b (by assumption)) | exact zQr_y (by assumption) (by assumption) (by assumption) (by assumption) (by assumption) (zMfr_b (by assumption))) (by first | assumption | (have hf := zMu_4 (by assumption); omega)) hQ
  · refine k_M_weatherOf I_16 ⟨by omega, by omega⟩ (fun v33 b_56 b_57 => ?_)
    intro g36 e_58
    have I_59 : zk_I g36 := by rw [e_58]; exact zk_upd (zk_nl3 (i := 3) (by omega)).1 (zk_nl3 (i := 3) (by omega)).2 I_16 ⟨by omega, by omega⟩
    have F_60 : zk_fr fr_M_goesBy g g36 := by rw [e_58]; exact zk_fu F_17 (Or.inr (Or.inr (Or.inr (Or.inr (Or.inr (Or.inr (Or.inr (Or.inr (Or.inr (Or.inr (Or.inr (Or.inr (Or.inr (Or.inr (Or.inr (Or.inl ⟨rfl, by omega, by omega⟩))))))))))))))))
    have m_61 := zk_rng I_59 215 4
    have m_62 : g36 215 4 = g14 215 4 := by rw [e_58]; exact zi_u_ni (by decide)
    have m_63 := zk_rng I_16 215 4
    exact k_M_goesBy_b97 I_59 F_60 (by first | exact zQr_n (by assumption) (by assumption) (by assumption) (zMfr_b (by assumption)) | exact zQr_y (by assumption) (by assumption) (by assumption) (by assumption) (by assumption) (zMfr_b (by assumption))) (by first | assumption | (have hf := zMu_4 (by assumption); omega)) hQ
-- SpoutNewsModel.days(I)I
set_option maxRecDepth 100000 in
set_option maxHeartbeats 4000000 in
theorem k_M_days_l36 {l1 : Int} {K58 : Int → zi_M → Prop} {Q : Int → zi_M → Prop} {g0 : zi_M} (q1 : 1 ≤ l1 ∧ l1 ≤ 60) (hK58 : ∀ (k2 : Int) (g : zi_M), zk_I g → zk_fr fr_M_days g0 g → ((-2147483648) ≤ k2 ∧ k2 ≤ 2147483647) → (zDM2 l1 g0 g) → (k2 = zi_w (g 215 4 - g0 215 4)) → K58 k2 g) (hQ : ∀ (v : Int) (g' : zi_M), zk_I g' → zk_fr fr_M_days g0 g' → ((-2147483648) ≤ v ∧ v ≤ 2147483647) → ((1 ≤ l1 ∧ l1 ≤ 60 ∧ zi_w (g0 215 0 + l1) ≤ 9999) → zDM2 l1 g0 g') → ((1 ≤ l1 ∧ l1 ≤ 60 ∧ zi_w (g0 215 0 + l1) ≤ 9999) → v = zi_w (g' 215 4 - g0 215 4)) → (¬ (1 ≤ l1 ∧ l1 ≤ 60 ∧ zi_w (g0 215 0 + l1) ≤ 9999) → v = -1 ∧ ∃ x : Int, g' = zi_u g0 214 0 x) → Q v g') : ∀ (n : Nat) {l2 : Int} {l3 : Int} {g : zi_M}, zk_I g → zk_fr fr_M_days g0 g → ((-2147483648) ≤ l2 ∧ l2 ≤ 2147483647) → (0 ≤ l3 ∧ l3 ≤ 60) → (l3 ≤ l1) → (zDm l3 g0 g) → (l2 = zi_w (g 215 4 - g0 215 4)) → 60 - l3 < (n : Int) → w_M_days_l36 l1 K58 Q n l2 l3 g
  | 0, l2, l3, g, I, F, b0, b1, b2, b3, b4, hm => by exfalso; omega
  | n + 1, l2, l3, g, I, F, b0, b1, b2, b3, b4, hm => by
    unfold w_M_days_l36
    refine ⟨⟨by omega, by omega⟩, ⟨by omega, by omega⟩, ?_⟩
    refine ⟨fun c13 => ?_, fun c13 => ?_⟩
    · have m_14 := zk_rng I 215 4
      exact hK58 _ _ I F ⟨by omega, by omega⟩ (by exact zDm_x (by assumption) (by omega)) (by assumption)
    · refine k_M_keepsAhead I (fun g8 I_16 F_17 b_15 => ?_)
      have F_18 : zk_fr fr_M_days g0 g8 := zk_ft F F_17 (fun a i => (fun h => Or.elim h (fun h => (Or.inl h)) (fun h => (Or.inr (Or.inr (Or.inr (Or.inr (Or.inr (Or.inr (Or.inr (Or.inl h)))))))))))
      have m_19 := zk_rng I_16 215 4
      have m_20 : g8 215 4 = g 215 4 := F_17 _ _ (by unfold fr_M_keepsAhead; omega)
      have m_21 := zk_rng I 215 4
      refine k_M_goesBy I_16 (fun v10 g11 I_25 F_26 b_22 b_23 b_24 => ?_)
      have F_27 : zk_fr fr_M_days g0 g11 := zk_ft F_18 F_26 (fun a i => (fun h => Or.elim h (fun h => (Or.inr (Or.inl h))) (fun h => Or.elim h (fun h => (Or.inr (Or.inr (Or.inl h)))) (fun h => Or.elim h (fun h => (Or.inr (Or.inr (Or.inr (Or.inl h))))) (fun h => Or.elim h (fun h => (Or.inr (Or.inr (Or.inr (Or.inr (Or.inl h)))))) (fun h => Or.elim h (fun h => (Or.inr (Or.inr (Or.inr (Or.inr (Or.inr (Or.inl h))))))) (fun h => Or.elim h (fun h => (Or.inr (Or.inr (Or.inr (Or.inr (Or.inr (Or.inr (Or.inr (Or.inr (Or.inl h)))))))))) (fun h => Or.elim h (fun h => (Or.inr (Or.inr (Or.inr (Or.inr (Or.inr (Or.inr (Or.inr (Or.inr (Or.inr (Or.inl h))))))))))) (fun h => Or.elim h (fun h => (Or.inr (Or.inr (Or.inr (Or.inr (Or.inr (Or.inr (Or.inr (Or.inr (Or.inr (Or.inr (Or.inl h)))))))))))) (fun h => Or.elim h (fun h => (Or.inr (Or.inr (Or.inr (Or.inr (Or.inr (Or.inr (Or.inr (Or.inr (Or.inr (Or.inr (Or.inr (Or.inl h))))))))))))) (fun h => Or.elim h (fun h => (Or.inr (Or.inr (Or.inr (Or.inr (Or.inr (Or.inr (Or.inr (Or.inr (Or.inr (Or.inr (Or.inr (Or.inr (Or.inl h)))))))))))))) (fun h => Or.elim h (fun h => (Or.inr (Or.inr (Or.inr (Or.inr (Or.inr (Or.inr (Or.inr (Or.inr (Or.inr (Or.inr (Or.inr (Or.inr (Or.inr (Or.inl h))))))))))))))) (fun h => Or.elim h (fun h => (Or.inr (Or.inr (Or.inr (Or.inr (Or.inr (Or.inr (Or.inr (Or.inr (Or.inr (Or.inr (Or.inr (Or.inr (Or.inr (Or.inr (Or.inl h)))))))))))))))) (fun h => Or.elim h (fun h => (Or.inr (Or.inr (Or.inr (Or.inr (Or.inr (Or.inr (Or.inr (Or.inr (Or.inr (Or.inr (Or.inr (Or.inr (Or.inr (Or.inr (Or.inr (Or.inl h))))))))))))))))) (fun h => Or.elim h (fun h => (Or.inr (Or.inr (Or.inr (Or.inr (Or.inr (Or.inr (Or.inr (Or.inr (Or.inr (Or.inr (Or.inr (Or.inr (Or.inr (Or.inr (Or.inr (Or.inr (Or.inl h)))))))))))))))))) (fun h => Or.elim h (fun h => (Or.inr (Or.inr (Or.inr (Or.inr (Or.inr (Or.inr (Or.inr (Or.inr (Or.inr (Or.inr (Or.inr (Or.inr (Or.inr (Or.inr (Or.inr (Or.inr (Or.inr (Or.inl h))))))))))))))))))) (fun h => Or.elim h (fun h => (Or.inr (Or.inr (Or.inr (Or.inr (Or.inr (Or.inr (Or.inr (Or.inr (Or.inr (Or.inr (Or.inr (Or.inr (Or.inr (Or.inr (Or.inr (Or.inr (Or.inr (Or.inr (Or.inl h)))))))))))))))))))) (fun h => Or.elim h (fun h => (Or.inr (Or.inr (Or.inr (Or.inr (Or.inr (Or.inr (Or.inr (Or.inr (Or.inr (Or.inr (Or.inr (Or.inr (Or.inr (Or.inr (Or.inr (Or.inr (Or.inr (Or.inr (Or.inr (Or.inl h))))))))))))))))))))) (fun h => Or.elim h (fun h => (Or.inr (Or.inr (Or.inr (Or.inr (Or.inr (Or.inr (Or.inr (Or.inr (Or.inr (Or.inr (Or.inr (Or.inr (Or.inr (Or.inr (Or.inr (Or.inr (Or.inr (Or.inr (Or.inr (Or.inr (Or.inl h)))))))))))))))))))))) (fun h => Or.elim h (fun h => (Or.inr (Or.inr (Or.inr (Or.inr (Or.inr (Or.inr (Or.inr (Or.inr (Or.inr (Or.inr (Or.inr (Or.inr (Or.inr (Or.inr (Or.inr (Or.inr (Or.inr (Or.inr (Or.inr (Or.inr (Or.inr (Or.inl h))))))))))))))))))))))) (fun h => (Or.inr (Or.inr (Or.inr (Or.inr (Or.inr (Or.inr (Or.inr (Or.inr (Or.inr (Or.inr (Or.inr (Or.inr (Or.inr (Or.inr (Or.inr (Or.inr (Or.inr (Or.inr (Or.inr (Or.inr (Or.inr (Or.inr h)))))))))))))))))))))))))))))))))))))))))))
      have m_28 := zi_r_w (l2 + v10)
      have m_29 := zk_rng I_25 215 4
      exact k_M_days_l36 q1 hK58 hQ n I_25 F_27 ⟨by omega, by omega⟩ ⟨by omega, by omega⟩ (by omega) (by first | exact zDm_0 I (by assumption) | exact zDm_s b3 (zMfr_y F) (by assumption) (by assumption) (by assumption) (by assumption) (by omega)) (by first | exact zMs_0 (by assumption) | exact zMs_s b4 (by assumption) (by assumption)) (by omega)
set_option maxRecDepth 100000 in
set_option maxHeartbeats 4000000 in
theorem k_M_days {l1 : Int} {g : zi_M} {Q : Int → zi_M → Prop} (I : zk_I g) (p1 : (-2147483648) ≤ l1 ∧ l1 ≤ 2147483647) (hQ : ∀ (v : Int) (g' : zi_M), zk_I g' → zk_fr fr_M_days g g' → ((-2147483648) ≤ v ∧ v ≤ 2147483647) → ((1 ≤ l1 ∧ l1 ≤ 60 ∧ zi_w (g 215 0 + l1) ≤ 9999) → zDM2 l1 g g') → ((1 ≤ l1 ∧ l1 ≤ 60 ∧ zi_w (g 215 0 + l1) ≤ 9999) → v = zi_w (g' 215 4 - g 215 4)) → (¬ (1 ≤ l1 ∧ l1 ≤ 60 ∧ zi_w (g 215 0 + l1) ≤ 9999) → v = -1 ∧ ∃ x : Int, g' = zi_u g 214 0 x) → Q v g') : w_M_days l1 g Q := by
  unfold w_M_days
  intro g1 e_1
  have I_2 : zk_I g1 := by rw [e_1]; exact zk_upd (L := (-2147483648)) (H := 2147483647) rfl rfl I ⟨by omega, by omega⟩
  have F_3 : zk_fr fr_M_days g g1 := by rw [e_1]; exact zk_fu (zk_f0 _) (Or.inr (Or.inr (Or.inr (Or.inr (Or.inr (Or.inr (Or.inl ⟨rfl, rfl⟩)))))))
  refine k_M_isIn I_2 ⟨by omega, by omega⟩ ⟨by omega, by omega⟩ ⟨by omega, by omega⟩ (fun v2 b_4 b_5 b_6 => ?_)
  refine ⟨fun c18 => ?_, fun c18 => ?_⟩
  · have m_7 := zk_rng I_2 215 4
    have m_8 : g1 215 4 = g 215 4 := by rw [e_1]; exact zi_u_ne (by decide)
    have m_9 := zk_rng I 215 4
    exact hQ _ _ I_2 F_3 ⟨by omega, by omega⟩ (by first | (intro hx; assumption) | (intro hx; exfalso; omega) | (intro hx; have hy := zDu (by assumption) (by assumption); exfalso; omega)) (by first | (intro hx; exfalso; omega) | (intro hx; have hy := zDu (by assumption) (by assumption); exfalso; omega) | (intro hx; have hy := zDu2 (by assumption) (by assumption); exfalso; omega) | exact fun _ => by assumption) (by first | (intro hx; exfalso; omega) | (intro hx; have hy := zDu (by assumption) (by assumption); exfalso; omega) | (intro hx; have hy := zDu2 (by assumption) (by assumption); exfalso; omega) | exact fun _ => ⟨rfl, _, by assumption⟩)
  · have m_10 := zk_rng I_2 215 0
    have m_11 : g1 215 0 = g 215 0 := by rw [e_1]; exact zi_u_ne (by decide)
    have m_12 := zk_rng I 215 0
    have m_13 := zi_r_w ((g1 215 0) + l1)
    refine ⟨fun c17 => ?_, fun c17 => ?_⟩
    · have m_36 := zk_rng I_2 215 4
      have m_37 : g1 215 4 = g 215 4 := by rw [e_1]; exact zi_u_ne (by decide)
      have m_38 := zk_rng I 215 4
      refine ⟨((60 - 0 : Int).toNat + 1), k_M_days_l36 (l1 := l1) ⟨by omega, by omega⟩ (fun k14 g15 I_30 F_31 b_32 b_33 b_34 => ?_) hQ ((60 - 0 : Int).toNat + 1) I_2 F_3 ⟨by omega, by omega⟩ ⟨by omega, by omega⟩ (by omega) (by first | exact zDm_0 I (by assumption) | exact zDm_s b3 (zMfr_y F) (by assumption) (by assumption) (by assumption) (by assumption) (by omega)) (by first | exact zMs_0 (by assumption) | exact zMs_s b4 (by assumption) (by assumption)) (by omega)⟩
      have m_35 := zk_rng I_30 215 4
      exact hQ _ _ I_30 F_31 ⟨by omega, by omega⟩ (by first | (intro hx; assumption) | (intro hx; exfalso; omega) | (intro hx; have hy := zDu (by assumption) (by assumption); exfalso; omega)) (by first | (intro hx; exfalso; omega) | (intro hx; have hy := zDu (by assumption) (by assumption); exfalso; omega) | (intro hx; have hy := zDu2 (by assumption) (by assumption); exfalso; omega) | exact fun _ => by assumption) (by first | (intro hx; exfalso; omega) | (intro hx; have hy := zDu (by assumption) (by assumption); exfalso; omega) | (intro hx; have hy := zDu2 (by assumption) (by assumption); exfalso; omega) | exact fun _ => ⟨rfl, _, by assumption⟩)
    · have m_39 := zk_rng I_2 215 4
      have m_40 : g1 215 4 = g 215 4 := by rw [e_1]; exact zi_u_ne (by decide)
      have m_41 := zk_rng I 215 4
      exact hQ _ _ I_2 F_3 ⟨by omega, by omega⟩ (by first | (intro hx; assumption) | (intro hx; exfalso; omega) | (intro hx; have hy := zDu (by assumption) (by assumption); exfalso; omega)) (by first | (intro hx; exfalso; omega) | (intro hx; have hy := zDu (by assumption) (by assumption); exfalso; omega) | (intro hx; have hy := zDu2 (by assumption) (by assumption); exfalso; omega) | exact fun _ => by assumption) (by first | (intro hx; exfalso; omega) | (intro hx; have hy := zDu (by assumption) (by assumption); exfalso; omega) | (intro hx; have hy := zDu2 (by assumption) (by assumption); exfalso; omega) | exact fun _ => ⟨rfl, _, by assumption⟩)
-- SpoutNews.feedFour(I)V
theorem k_S_feedFour_1 {l1 l2 : Int} {K : zi_M → Prop} {Q : Int → zi_M → Prop} {m : Nat} {g : zi_M} (I : zk_I g) (hl : l2 = 0 ∨ l2 = 8 ∨ l2 = 16 ∨ l2 = 24) (r : zi_r l1) (hn : g 0 8 < 400) (h : ∀ g' : zi_M, zk_I g' → zk_fr fr_S_feedFour g g' → g' 0 8 = g 0 8 + 1 → g' 190 = zup (g 190) (g 0 8) (zby l1 l2) → w_S_feedFour_l3 l1 K Q m (l2 + (-8)) g') : w_S_feedFour_l3 l1 K Q (m + 1) l2 g := by
  have b8 : 0 ≤ g 0 8 ∧ g 0 8 ≤ 400 := I.1 0 8
  unfold w_S_feedFour_l3
  refine ⟨⟨by omega, by omega⟩, fun c => by exfalso; omega, fun _ => ⟨⟨by omega, by omega⟩, fun c => by exfalso; omega, fun _ => ⟨⟨by omega, by omega⟩, ?_⟩⟩⟩
  intro g4 e4 g5 e5
  rw [zby_u r hl] at e4
  have b := zby_b l1 l2
  have I4 : zk_I g4 := by rw [e4]; exact zk_upd (L := 0) (H := 255) rfl rfl I ⟨by omega, by omega⟩
  have s8 : g4 0 8 = g 0 8 := by rw [e4]; exact zi_u_ne (by decide)
  refine h g5 (by rw [e5]; exact zk_upd (L := 0) (H := 400) rfl rfl I4 ⟨by omega, by omega⟩) (by rw [e5, e4]; exact zk_fu (zk_fu (zk_f0 _) (Or.inl rfl)) (Or.inr ⟨rfl, rfl⟩)) (by rw [e5, zi_u_eq, s8]) (by rw [e5, zi_u_row (by decide), e4, zup_u])
theorem k_S_feedFour {l1 : Int} {g : zi_M} {Q : Int → zi_M → Prop} (I : zk_I g) (p1 : (-2147483648) ≤ l1 ∧ l1 ≤ 2147483647) (hQ : ∀ g' : zi_M, zk_I g' → zk_fr fr_S_feedFour g g' → (g 0 8 ≤ 396 → g' 0 8 = g 0 8 + 4) → (g 0 8 ≤ 396 → g' 190 = zty (g 190) (g 0 8) l1) → Q 0 g') : w_S_feedFour l1 g Q := by
  have b8 : 0 ≤ g 0 8 ∧ g 0 8 ≤ 400 := I.1 0 8
  unfold w_S_feedFour
  by_cases c : g 0 8 ≤ 396
  · refine ⟨5, k_S_feedFour_1 I (by decide) p1 (by omega) (fun g1 I1 F1 n1 r1 => k_S_feedFour_1 I1 (by decide) p1 (by omega) (fun g2 I2 F2 n2 r2 => k_S_feedFour_1 I2 (by decide) p1 (by omega) (fun g3 I3 F3 n3 r3 => k_S_feedFour_1 I3 (by decide) p1 (by omega) (fun g4 I4 F4 n4 r4 => ?_))))⟩
    unfold w_S_feedFour_l3
    refine ⟨by decide, fun _ => ?_, fun q => absurd q (by decide)⟩
    refine hQ g4 I4 (zk_ft (zk_ft (zk_ft F1 F2 (fun _ _ h => h)) F3 (fun _ _ h => h)) F4 (fun _ _ h => h)) (fun _ => by omega) (fun _ => ?_)
    rw [r4, r3, r2, r1, n3, n2, n1]
    rfl
  · have st : ∀ (m : Nat) (l2 : Int) (x : zi_M), zk_I x → zk_fr fr_S_feedFour g x → (l2 = 0 ∨ l2 = 8 ∨ l2 = 16 ∨ l2 = 24 ∨ l2 = -8) → l2 + 8 < 8 * (m : Int) → w_S_feedFour_l3 l1 (fun g8 => Q 0 g8) Q m l2 x := by
      intro m
      induction m with
      | zero => intro l2 x Ix Fx hl hm; exfalso; omega
      | succ m ih =>
        intro l2 x Ix Fx hl hm
        have bx : 0 ≤ x 0 8 ∧ x 0 8 ≤ 400 := Ix.1 0 8
        by_cases q : l2 = -8 ∨ 400 ≤ x 0 8
        · unfold w_S_feedFour_l3
          have e : Q 0 x := hQ x Ix Fx (fun q => absurd q c) (fun q => absurd q c)
          exact ⟨⟨by omega, by omega⟩, fun _ => e, fun _ => ⟨⟨by omega, by omega⟩, fun _ => e, fun _ => by exfalso; omega⟩⟩
        · exact k_S_feedFour_1 Ix (by omega) p1 (by omega) (fun y Iy Fy _ _ => ih (l2 + (-8)) y Iy (zk_ft Fx Fy (fun _ _ h => h)) (by omega) (by omega))
    exact ⟨5, st 5 24 g I (zk_f0 _) (by decide) (by decide)⟩

