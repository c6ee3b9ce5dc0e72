-- by program (wip/gen/mkz.py)
-- SpoutNewsModel.readPlan()I
noncomputable def fr_M_readPlan (a : Nat) (i : Int) : Prop := a = 234 ∨ (a = 214 ∧ i = 14) ∨ (a = 214 ∧ i = 15) ∨ (a = 214 ∧ i = 16) ∨ (a = 214 ∧ i = 17) ∨ (a = 214 ∧ i = 31) ∨ (a = 214 ∧ i = 32)
set_option maxRecDepth 100000 in
set_option maxHeartbeats 4000000 in
theorem k_M_readPlan_l2 {K17 : zi_M → Prop} {K37 : zi_M → Prop} {K46 : Int → zi_M → Prop} {Q : Int → zi_M → Prop} {g0 : zi_M} (hK17 : ∀ (g : zi_M), zk_I g → zk_fr fr_M_readPlan g0 g → K17 g) (hK37 : ∀ (g : zi_M), zk_I g → zk_fr fr_M_readPlan g0 g → K37 g) (hK46 : ∀ (k1 : Int) (g : zi_M), zk_I g → zk_fr fr_M_readPlan g0 g → (0 ≤ k1 ∧ k1 ≤ 16) → (zd g k1) → K46 k1 g) (hQ : ∀ (v : Int) (g' : zi_M), zk_I g' → zk_fr fr_M_readPlan g0 g' → ((-1) ≤ v ∧ v ≤ 16) → (¬ v = -1 → zd g' v) → Q v g') : ∀ (n : Nat) {l1 : Int} {g : zi_M}, zk_I g → zk_fr fr_M_readPlan g0 g → (0 ≤ l1 ∧ l1 ≤ 16) → (g 214 14 ≤ g 214 13) → (g 214 15 ≤ g 214 14) → (zt3 g) → (g0 214 15 ≤ g 214 15) → (zd g l1) → 16 - l1 < (n : Int) → w_M_readPlan_l2 K17 K37 K46 Q n l1 g
  | 0, l1, g, I, F, b0, b1, b2, b3, b4, b5, hm => by exfalso; omega
  | n + 1, l1, g, I, F, b0, b1, b2, b3, b4, b5, hm => by
    unfold w_M_readPlan_l2
    have m_4 : 0 ≤ (g 214 16) ∧ (g 214 16) ≤ 4 := I.1 214 16
    have m_5 : (-1) ≤ (g 214 17) ∧ (g 214 17) ≤ 100000 := I.1 214 17
    refine k_M_isWord I ⟨by omega, by omega⟩ (fun v1 b_1 b_2 b_3 => ?_)
    refine ⟨fun c11 => ?_, fun c11 => ?_⟩
    · exact hK46 _ _ I F ⟨by omega, by omega⟩ (by assumption)
    · refine ⟨⟨by omega, by omega⟩, ?_⟩
      refine ⟨fun c10 => ?_, fun c10 => ?_⟩
      · have m_6 : 0 ≤ (g 214 14) ∧ (g 214 14) ≤ 400 := I.1 214 14
        have m_7 : 0 ≤ (g 214 13) ∧ (g 214 13) ≤ 400 := I.1 214 13
        have m_8 : 0 ≤ (g 214 15) ∧ (g 214 15) ≤ 400 := I.1 214 15
        refine k_M_readDeed I ⟨by omega, by omega⟩ (by omega) (by omega) (by repeat first | assumption | refine zt3_u (by assumption) (by decide) ?_ | refine (by assumption : zt3 _ → zt3 _) ?_) (fun v5 g6 I_16 F_17 b_9 b_10 b_11 b_12 b_13 b_14 b_15 => ?_)
        have F_18 : zk_fr fr_M_readPlan g0 g6 := zk_ft F F_17 (fun a i => (fun h => Or.elim h (fun h => (Or.inl h)) (fun h => Or.elim h (fun h => (Or.inr (Or.inl h))) (fun h => Or.elim h (fun h => (Or.inr (Or.inr (Or.inl h)))) (fun h => Or.elim h (fun h => (Or.inr (Or.inr (Or.inr (Or.inl h))))) (fun h => Or.elim h (fun h => (Or.inr (Or.inr (Or.inr (Or.inr (Or.inl h)))))) (fun h => Or.elim h (fun h => (Or.inr (Or.inr (Or.inr (Or.inr (Or.inr (Or.inl h))))))) (fun h => (Or.inr (Or.inr (Or.inr (Or.inr (Or.inr (Or.inr h))))))))))))))
        refine ⟨⟨by omega, by omega⟩, ?_⟩
        refine ⟨fun c9 => ?_, fun c9 => ?_⟩
        · have m_19 : 0 ≤ (g6 214 14) ∧ (g6 214 14) ≤ 400 := I_16.1 214 14
          have m_20 : 0 ≤ (g6 214 13) ∧ (g6 214 13) ≤ 400 := I_16.1 214 13
          have m_21 : g6 214 13 = g 214 13 := F_17 _ _ (by unfold fr_M_readDeed; omega)
          have m_22 : 0 ≤ (g6 214 15) ∧ (g6 214 15) ≤ 400 := I_16.1 214 15
          exact k_M_readPlan_l2 hK17 hK37 hK46 hQ n I_16 F_18 ⟨by omega, by omega⟩ (by omega) (by omega) (by repeat first | assumption | refine zt3_u (by assumption) (by decide) ?_ | refine (by assumption : zt3 _ → zt3 _) ?_) (by omega) (by first | exact zd_0 _ | exact zd_step (by assumption) (by assumption) (by first | assumption | (apply_assumption; omega))) (by omega)
        · exact hK37 _ I_16 F_18
      · exact hK17 _ I F
set_option maxRecDepth 100000 in
set_option maxHeartbeats 4000000 in
theorem k_M_readPlan {g : zi_M} {Q : Int → zi_M → Prop} (I : zk_I g) (px0 : g 214 14 ≤ g 214 13) (px1 : g 214 15 ≤ g 214 14) (px2 : zt3 g) (hQ : ∀ (v : Int) (g' : zi_M), zk_I g' → zk_fr fr_M_readPlan g g' → ((-1) ≤ v ∧ v ≤ 16) → (¬ v = -1 → zd g' v) → Q v g') : w_M_readPlan g Q := by
  unfold w_M_readPlan
  have m_42 : 0 ≤ (g 214 14) ∧ (g 214 14) ≤ 400 := I.1 214 14
  have m_43 : 0 ≤ (g 214 13) ∧ (g 214 13) ≤ 400 := I.1 214 13
  have m_44 : 0 ≤ (g 214 15) ∧ (g 214 15) ≤ 400 := I.1 214 15
  refine ⟨((16 - 0 : Int).toNat + 1), k_M_readPlan_l2 (fun g12 I_23 F_24 => ?_) (fun g16 I_30 F_31 => ?_) (fun k17 g18 I_32 F_33 b_34 b_35 => ?_) hQ ((16 - 0 : Int).toNat + 1) I (zk_f0 _) ⟨by omega, by omega⟩ (by omega) (by omega) (by repeat first | assumption | refine zt3_u (by assumption) (by decide) ?_ | refine (by assumption : zt3 _ → zt3 _) ?_) (by omega) (by first | exact zd_0 _ | exact zd_step (by assumption) (by assumption) (by first | assumption | (apply_assumption; omega))) (by omega)⟩
  · refine k_M_errs I_23 ⟨by omega, by omega⟩ (fun v13 g14 I_27 F_28 b_25 b_26 => ?_)
    have F_29 : zk_fr fr_M_readPlan g g14 := zk_ft F_24 F_28 (fun a i => (fun h => Or.elim h (fun h => (Or.inr (Or.inr (Or.inr (Or.inr (Or.inr (Or.inl h))))))) (fun h => (Or.inr (Or.inr (Or.inr (Or.inr (Or.inr (Or.inr h)))))))))
    exact hQ _ _ I_27 F_29 ⟨by omega, by omega⟩ (by first | assumption | (intro hv; exfalso; omega) | (intro hv; assumption))
  · exact hQ _ _ I_30 F_31 ⟨by omega, by omega⟩ (by first | assumption | (intro hv; exfalso; omega) | (intro hv; assumption))
  · have m_36 : 0 ≤ (g18 214 16) ∧ (g18 214 16) ≤ 4 := I_32.1 214 16
    refine ⟨⟨by omega, by omega⟩, ?_⟩
    refine ⟨fun c23 => ?_, fun c23 => ?_⟩
    · refine k_M_errs I_32 ⟨by omega, by omega⟩ (fun v20 g21 I_39 F_40 b_37 b_38 => ?_)
      have F_41 : zk_fr fr_M_readPlan g g21 := zk_ft F_33 F_40 (fun a i => (fun h => Or.elim h (fun h => (Or.inr (Or.inr (Or.inr (Or.inr (Or.inr (Or.inl h))))))) (fun h => (Or.inr (Or.inr (Or.inr (Or.inr (Or.inr (Or.inr h)))))))))
      exact hQ _ _ I_39 F_41 ⟨by omega, by omega⟩ (by first | assumption | (intro hv; exfalso; omega) | (intro hv; assumption))
    · exact hQ _ _ I_32 F_33 ⟨by omega, by omega⟩ (by first | assumption | (intro hv; exfalso; omega) | (intro hv; assumption))
-- SpoutNewsModel.readWeather()I
noncomputable def fr_M_readWeather (a : Nat) (i : Int) : Prop := a = 233 ∨ (a = 214 ∧ i = 14) ∨ (a = 214 ∧ i = 15) ∨ (a = 214 ∧ i = 16) ∨ (a = 214 ∧ i = 17) ∨ (a = 214 ∧ i = 31) ∨ (a = 214 ∧ i = 32)
set_option maxRecDepth 100000 in
set_option maxHeartbeats 4000000 in
theorem k_M_readWeather_l2 {K17 : zi_M → Prop} {K56 : zi_M → Prop} {K97 : zi_M → Prop} {K106 : Int → zi_M → Prop} {Q : Int → zi_M → Prop} {g0 : zi_M} (hK17 : ∀ (g : zi_M), zk_I g → zk_fr fr_M_readWeather g0 g → K17 g) (hK56 : ∀ (g : zi_M), zk_I g → zk_fr fr_M_readWeather g0 g → K56 g) (hK97 : ∀ (g : zi_M), zk_I g → zk_fr fr_M_readWeather g0 g → K97 g) (hK106 : ∀ (k1 : Int) (g : zi_M), zk_I g → zk_fr fr_M_readWeather g0 g → (0 ≤ k1 ∧ k1 ≤ 16) → K106 k1 g) (hQ : ∀ (v : Int) (g' : zi_M), zk_I g' → zk_fr fr_M_readWeather g0 g' → ((-1) ≤ v ∧ v ≤ 16) → Q v g') : ∀ (n : Nat) {l1 : Int} {g : zi_M}, zk_I g → zk_fr fr_M_readWeather g0 g → (0 ≤ l1 ∧ l1 ≤ 16) → (g 214 14 ≤ g 214 13) → (g 214 15 ≤ g 214 14) → (zt3 g) → (g0 214 15 ≤ g 214 15) → 16 - l1 < (n : Int) → w_M_readWeather_l2 K17 K56 K97 K106 Q n l1 g
  | 0, l1, g, I, F, b0, b1, b2, b3, b4, hm => by exfalso; omega
  | n + 1, l1, g, I, F, b0, b1, b2, b3, b4, hm => by
    unfold w_M_readWeather_l2
    have m_4 : 0 ≤ (g 214 16) ∧ (g 214 16) ≤ 4 := I.1 214 16
    have m_5 : (-1) ≤ (g 214 17) ∧ (g 214 17) ≤ 100000 := I.1 214 17
    refine k_M_isWord I ⟨by omega, by omega⟩ (fun v1 b_1 b_2 b_3 => ?_)
    refine ⟨fun c25 => ?_, fun c25 => ?_⟩
    · exact hK106 _ _ I F ⟨by omega, by omega⟩
    · refine ⟨⟨by omega, by omega⟩, ?_⟩
      refine ⟨fun c24 => ?_, fun c24 => ?_⟩
      · have m_6 : 0 ≤ (g 214 14) ∧ (g 214 14) ≤ 400 := I.1 214 14
        have m_7 : 0 ≤ (g 214 13) ∧ (g 214 13) ≤ 400 := I.1 214 13
        have m_8 : 0 ≤ (g 214 15) ∧ (g 214 15) ≤ 400 := I.1 214 15
        refine k_M_readTold I ⟨by omega, by omega⟩ ⟨by omega, by omega⟩ ⟨by omega, by omega⟩ (by omega) (by omega) (by repeat first | assumption | refine zt3_u (by assumption) (by decide) ?_ | refine (by assumption : zt3 _ → zt3 _) ?_) (fun v5 g6 I_15 F_16 b_9 b_10 b_11 b_12 b_13 b_14 => ?_)
        have F_17 : zk_fr fr_M_readWeather g0 g6 := zk_ft F F_16 (fun a i => (fun h => Or.elim h (fun h => (Or.inr (Or.inl h))) (fun h => Or.elim h (fun h => (Or.inr (Or.inr (Or.inl h)))) (fun h => Or.elim h (fun h => (Or.inr (Or.inr (Or.inr (Or.inl h))))) (fun h => Or.elim h (fun h => (Or.inr (Or.inr (Or.inr (Or.inr (Or.inl h)))))) (fun h => Or.elim h (fun h => (Or.inr (Or.inr (Or.inr (Or.inr (Or.inr (Or.inl h))))))) (fun h => (Or.inr (Or.inr (Or.inr (Or.inr (Or.inr (Or.inr h)))))))))))))
        refine ⟨⟨by omega, by omega⟩, ?_⟩
        intro g9 e_18
        have I_19 : zk_I g9 := by rw [e_18]; exact zk_upd (L := (-2147483648)) (H := 2147483647) rfl rfl I_15 ⟨by omega, by omega⟩
        have F_20 : zk_fr fr_M_readWeather g0 g9 := by rw [e_18]; exact zk_fu F_17 (Or.inl rfl)
        have m_21 : (-2147483648) ≤ (g9 233 (32 + (2 * l1))) ∧ (g9 233 (32 + (2 * l1))) ≤ 2147483647 := I_19.1 233 (32 + (2 * l1))
        have m_22 : g9 233 (32 + (2 * l1)) = v5 := by rw [e_18]; exact zi_u_eq
        refine ⟨⟨by omega, by omega⟩, ?_⟩
        refine ⟨fun c23 => ?_, fun c23 => ?_⟩
        · have m_23 : 0 ≤ (g9 214 14) ∧ (g9 214 14) ≤ 400 := I_19.1 214 14
          have m_24 : g9 214 14 = g6 214 14 := by rw [e_18]; exact zi_u_ne (by decide)
          have m_25 : 0 ≤ (g6 214 14) ∧ (g6 214 14) ≤ 400 := I_15.1 214 14
          have m_26 : 0 ≤ (g9 214 13) ∧ (g9 214 13) ≤ 400 := I_19.1 214 13
          have m_27 : g9 214 13 = g6 214 13 := by rw [e_18]; exact zi_u_ne (by decide)
          have m_28 : 0 ≤ (g6 214 13) ∧ (g6 214 13) ≤ 400 := I_15.1 214 13
          have m_29 : g6 214 13 = g 214 13 := F_16 _ _ (by unfold fr_M_readTold; omega)
          have m_30 : 0 ≤ (g9 214 15) ∧ (g9 214 15) ≤ 400 := I_19.1 214 15
          have m_31 : g9 214 15 = g6 214 15 := by rw [e_18]; exact zi_u_ne (by decide)
          have m_32 : 0 ≤ (g6 214 15) ∧ (g6 214 15) ≤ 400 := I_15.1 214 15
          refine k_M_readTold I_19 ⟨by omega, by omega⟩ ⟨by omega, by omega⟩ ⟨by omega, by omega⟩ (by omega) (by omega) (by repeat first | assumption | refine zt3_u (by assumption) (by decide) ?_ | refine (by assumption : zt3 _ → zt3 _) ?_) (fun v11 g12 I_39 F_40 b_33 b_34 b_35 b_36 b_37 b_38 => ?_)
          have F_41 : zk_fr fr_M_readWeather g0 g12 := zk_ft F_20 F_40 (fun a i => (fun h => Or.elim h (fun h => (Or.inr (Or.inl h))) (fun h => Or.elim h (fun h => (Or.inr (Or.inr (Or.inl h)))) (fun h => Or.elim h (fun h => (Or.inr (Or.inr (Or.inr (Or.inl h))))) (fun h => Or.elim h (fun h => (Or.inr (Or.inr (Or.inr (Or.inr (Or.inl h)))))) (fun h => Or.elim h (fun h => (Or.inr (Or.inr (Or.inr (Or.inr (Or.inr (Or.inl h))))))) (fun h => (Or.inr (Or.inr (Or.inr (Or.inr (Or.inr (Or.inr h)))))))))))))
          refine ⟨⟨by omega, by omega⟩, ?_⟩
          intro g15 e_42
          have I_43 : zk_I g15 := by rw [e_42]; exact zk_upd (L := (-2147483648)) (H := 2147483647) rfl rfl I_39 ⟨by omega, by omega⟩
          have F_44 : zk_fr fr_M_readWeather g0 g15 := by rw [e_42]; exact zk_fu F_41 (Or.inl rfl)
          have m_45 : (-2147483648) ≤ (g15 233 ((32 + (2 * l1)) + 1)) ∧ (g15 233 ((32 + (2 * l1)) + 1)) ≤ 2147483647 := I_43.1 233 ((32 + (2 * l1)) + 1)
          have m_46 : g15 233 ((32 + (2 * l1)) + 1) = v11 := by rw [e_42]; exact zi_u_eq
          refine ⟨⟨by omega, by omega⟩, ?_⟩
          refine ⟨fun c22 => ?_, fun c22 => ?_⟩
          · exact hK97 _ I_43 F_44
          · have m_47 : 0 ≤ (g15 214 14) ∧ (g15 214 14) ≤ 400 := I_43.1 214 14
            have m_48 : g15 214 14 = g12 214 14 := by rw [e_42]; exact zi_u_ne (by decide)
            have m_49 : 0 ≤ (g12 214 14) ∧ (g12 214 14) ≤ 400 := I_39.1 214 14
            have m_50 : 0 ≤ (g15 214 13) ∧ (g15 214 13) ≤ 400 := I_43.1 214 13
            have m_51 : g15 214 13 = g12 214 13 := by rw [e_42]; exact zi_u_ne (by decide)
            have m_52 : 0 ≤ (g12 214 13) ∧ (g12 214 13) ≤ 400 := I_39.1 214 13
            have m_53 : g12 214 13 = g9 214 13 := F_40 _ _ (by unfold fr_M_readTold; omega)
            have m_54 : 0 ≤ (g15 214 15) ∧ (g15 214 15) ≤ 400 := I_43.1 214 15
            have m_55 : g15 214 15 = g12 214 15 := by rw [e_42]; exact zi_u_ne (by decide)
            have m_56 : 0 ≤ (g12 214 15) ∧ (g12 214 15) ≤ 400 := I_39.1 214 15
            refine k_M_readMark I_43 ⟨by omega, by omega⟩ (by omega) (by omega) (by repeat first | assumption | refine zt3_u (by assumption) (by decide) ?_ | refine (by assumption : zt3 _ → zt3 _) ?_) (fun v17 g18 I_62 F_63 b_57 b_58 b_59 b_60 b_61 => ?_)
            have F_64 : zk_fr fr_M_readWeather g0 g18 := zk_ft F_44 F_63 (fun a i => (fun h => Or.elim h (fun h => (Or.inr (Or.inl h))) (fun h => Or.elim h (fun h => (Or.inr (Or.inr (Or.inl h)))) (fun h => Or.elim h (fun h => (Or.inr (Or.inr (Or.inr (Or.inl h))))) (fun h => Or.elim h (fun h => (Or.inr (Or.inr (Or.inr (Or.inr (Or.inl h)))))) (fun h => Or.elim h (fun h => (Or.inr (Or.inr (Or.inr (Or.inr (Or.inr (Or.inl h))))))) (fun h => (Or.inr (Or.inr (Or.inr (Or.inr (Or.inr (Or.inr h)))))))))))))
            refine ⟨⟨by omega, by omega⟩, ?_⟩
            refine ⟨fun c21 => ?_, fun c21 => ?_⟩
            · have m_65 : 0 ≤ (g18 214 14) ∧ (g18 214 14) ≤ 400 := I_62.1 214 14
              have m_66 : 0 ≤ (g18 214 13) ∧ (g18 214 13) ≤ 400 := I_62.1 214 13
              have m_67 : g18 214 13 = g15 214 13 := F_63 _ _ (by unfold fr_M_readMark; omega)
              have m_68 : 0 ≤ (g18 214 15) ∧ (g18 214 15) ≤ 400 := I_62.1 214 15
              exact k_M_readWeather_l2 hK17 hK56 hK97 hK106 hQ n I_62 F_64 ⟨by omega, by omega⟩ (by omega) (by omega) (by repeat first | assumption | refine zt3_u (by assumption) (by decide) ?_ | refine (by assumption : zt3 _ → zt3 _) ?_) (by omega) (by omega)
            · exact hK97 _ I_62 F_64
        · exact hK56 _ I_19 F_20
      · exact hK17 _ I F
set_option maxRecDepth 100000 in
set_option maxHeartbeats 4000000 in
theorem k_M_readWeather {g : zi_M} {Q : Int → zi_M → Prop} (I : zk_I g) (px0 : g 214 14 ≤ g 214 13) (px1 : g 214 15 ≤ g 214 14) (px2 : zt3 g) (hQ : ∀ (v : Int) (g' : zi_M), zk_I g' → zk_fr fr_M_readWeather g g' → ((-1) ≤ v ∧ v ≤ 16) → Q v g') : w_M_readWeather g Q := by
  unfold w_M_readWeather
  have m_89 : 0 ≤ (g 214 14) ∧ (g 214 14) ≤ 400 := I.1 214 14
  have m_90 : 0 ≤ (g 214 13) ∧ (g 214 13) ≤ 400 := I.1 214 13
  have m_91 : 0 ≤ (g 214 15) ∧ (g 214 15) ≤ 400 := I.1 214 15
  refine ⟨((16 - 0 : Int).toNat + 1), k_M_readWeather_l2 (fun g26 I_69 F_70 => ?_) (fun g30 I_76 F_77 => ?_) (fun g31 I_78 F_79 => ?_) (fun k32 g33 I_80 F_81 b_82 => ?_) hQ ((16 - 0 : Int).toNat + 1) I (zk_f0 _) ⟨by omega, by omega⟩ (by omega) (by omega) (by repeat first | assumption | refine zt3_u (by assumption) (by decide) ?_ | refine (by assumption : zt3 _ → zt3 _) ?_) (by omega) (by omega)⟩
  · refine k_M_errs I_69 ⟨by omega, by omega⟩ (fun v27 g28 I_73 F_74 b_71 b_72 => ?_)
    have F_75 : zk_fr fr_M_readWeather g g28 := zk_ft F_70 F_74 (fun a i => (fun h => Or.elim h (fun h => (Or.inr (Or.inr (Or.inr (Or.inr (Or.inr (Or.inl h))))))) (fun h => (Or.inr (Or.inr (Or.inr (Or.inr (Or.inr (Or.inr h)))))))))
    exact hQ _ _ I_73 F_75 ⟨by omega, by omega⟩
  · exact hQ _ _ I_76 F_77 ⟨by omega, by omega⟩
  · exact hQ _ _ I_78 F_79 ⟨by omega, by omega⟩
  · have m_83 : 0 ≤ (g33 214 16) ∧ (g33 214 16) ≤ 4 := I_80.1 214 16
    refine ⟨⟨by omega, by omega⟩, ?_⟩
    refine ⟨fun c38 => ?_, fun c38 => ?_⟩
    · refine k_M_errs I_80 ⟨by omega, by omega⟩ (fun v35 g36 I_86 F_87 b_84 b_85 => ?_)
      have F_88 : zk_fr fr_M_readWeather g g36 := zk_ft F_81 F_87 (fun a i => (fun h => Or.elim h (fun h => (Or.inr (Or.inr (Or.inr (Or.inr (Or.inr (Or.inl h))))))) (fun h => (Or.inr (Or.inr (Or.inr (Or.inr (Or.inr (Or.inr h)))))))))
      exact hQ _ _ I_86 F_88 ⟨by omega, by omega⟩
    · exact hQ _ _ I_80 F_81 ⟨by omega, by omega⟩
-- SpoutNewsModel.readGutter()I
noncomputable def fr_M_readGutter (a : Nat) (i : Int) : Prop := a = 232 ∨ (a = 214 ∧ i = 14) ∨ (a = 214 ∧ i = 15) ∨ (a = 214 ∧ i = 16) ∨ (a = 214 ∧ i = 17) ∨ (a = 214 ∧ i = 31) ∨ (a = 214 ∧ i = 32)
set_option maxRecDepth 100000 in
set_option maxHeartbeats 4000000 in
theorem k_M_readGutter_b62 {l1 : Int} {Q : Int → zi_M → Prop} {g : zi_M} {g0 : zi_M} (I : zk_I g) (F : zk_fr fr_M_readGutter g0 g) (p1 : 0 ≤ l1 ∧ l1 ≤ 9) (ix0 : g 214 14 ≤ g 214 13) (ix1 : g 214 15 ≤ g 214 14) (ix2 : zt3 g) (ix3 : g0 214 15 ≤ g 214 15) (hQ : ∀ (v : Int) (g' : zi_M), zk_I g' → zk_fr fr_M_readGutter g0 g' → ((-1) ≤ v ∧ v ≤ 0) → (g' 214 14 ≤ g' 214 13) → (g' 214 15 ≤ g' 214 14) → (zt3 g') → (g0 214 15 ≤ g' 214 15) → Q v g') : w_M_readGutter_b62 l1 g Q := by
  unfold w_M_readGutter_b62
  have m_30 : 0 ≤ (g 214 6) ∧ (g 214 6) ≤ 10 := I.1 214 6
  have m_31 : 0 ≤ (g 214 14) ∧ (g 214 14) ≤ 400 := I.1 214 14
  have m_32 : 0 ≤ (g 214 13) ∧ (g 214 13) ≤ 400 := I.1 214 13
  have m_33 : 0 ≤ (g 214 15) ∧ (g 214 15) ≤ 400 := I.1 214 15
  refine k_M_readNumber I ⟨by omega, by omega⟩ ⟨by omega, by omega⟩ (by omega) (by omega) (by repeat first | assumption | refine zt3_u (by assumption) (by decide) ?_ | refine (by assumption : zt3 _ → zt3 _) ?_) (fun v12 g13 I_40 F_41 b_34 b_35 b_36 b_37 b_38 b_39 => ?_)
  have F_42 : zk_fr fr_M_readGutter g0 g13 := zk_ft F F_41 (fun a i => (fun h => Or.elim h (fun h => (Or.inr (Or.inl h))) (fun h => Or.elim h (fun h => (Or.inr (Or.inr (Or.inl h)))) (fun h => Or.elim h (fun h => (Or.inr (Or.inr (Or.inr (Or.inl h))))) (fun h => Or.elim h (fun h => (Or.inr (Or.inr (Or.inr (Or.inr (Or.inl h)))))) (fun h => Or.elim h (fun h => (Or.inr (Or.inr (Or.inr (Or.inr (Or.inr (Or.inl h))))))) (fun h => (Or.inr (Or.inr (Or.inr (Or.inr (Or.inr (Or.inr h)))))))))))))
  refine ⟨⟨by omega, by omega⟩, ?_⟩
  refine ⟨fun c21 => ?_, fun c21 => ?_⟩
  · refine ⟨⟨by omega, by omega⟩, ?_⟩
    intro g17 e_43
    have I_44 : zk_I g17 := by rw [e_43]; exact zk_upd (L := 0) (H := 10) rfl rfl I_40 ⟨by omega, by omega⟩
    have F_45 : zk_fr fr_M_readGutter g0 g17 := by rw [e_43]; exact zk_fu F_42 (Or.inl rfl)
    have m_46 : 0 ≤ (g17 214 14) ∧ (g17 214 14) ≤ 400 := I_44.1 214 14
    have m_47 : g17 214 14 = g13 214 14 := by rw [e_43]; exact zi_u_ne (by decide)
    have m_48 : 0 ≤ (g13 214 14) ∧ (g13 214 14) ≤ 400 := I_40.1 214 14
    have m_49 : 0 ≤ (g17 214 13) ∧ (g17 214 13) ≤ 400 := I_44.1 214 13
    have m_50 : g17 214 13 = g13 214 13 := by rw [e_43]; exact zi_u_ne (by decide)
    have m_51 : 0 ≤ (g13 214 13) ∧ (g13 214 13) ≤ 400 := I_40.1 214 13
    have m_52 : g13 214 13 = g 214 13 := F_41 _ _ (by unfold fr_M_readNumber; omega)
    have m_53 : 0 ≤ (g17 214 15) ∧ (g17 214 15) ≤ 400 := I_44.1 214 15
    have m_54 : g17 214 15 = g13 214 15 := by rw [e_43]; exact zi_u_ne (by decide)
    have m_55 : 0 ≤ (g13 214 15) ∧ (g13 214 15) ≤ 400 := I_40.1 214 15
    refine k_M_readMark I_44 ⟨by omega, by omega⟩ (by omega) (by omega) (by repeat first | assumption | refine zt3_u (by assumption) (by decide) ?_ | refine (by assumption : zt3 _ → zt3 _) ?_) (fun v18 g19 I_61 F_62 b_56 b_57 b_58 b_59 b_60 => ?_)
    have F_63 : zk_fr fr_M_readGutter g0 g19 := zk_ft F_45 F_62 (fun a i => (fun h => Or.elim h (fun h => (Or.inr (Or.inl h))) (fun h => Or.elim h (fun h => (Or.inr (Or.inr (Or.inl h)))) (fun h => Or.elim h (fun h => (Or.inr (Or.inr (Or.inr (Or.inl h))))) (fun h => Or.elim h (fun h => (Or.inr (Or.inr (Or.inr (Or.inr (Or.inl h)))))) (fun h => Or.elim h (fun h => (Or.inr (Or.inr (Or.inr (Or.inr (Or.inr (Or.inl h))))))) (fun h => (Or.inr (Or.inr (Or.inr (Or.inr (Or.inr (Or.inr h)))))))))))))
    have m_64 : 0 ≤ (g19 214 14) ∧ (g19 214 14) ≤ 400 := I_61.1 214 14
    have m_65 : 0 ≤ (g19 214 13) ∧ (g19 214 13) ≤ 400 := I_61.1 214 13
    have m_66 : g19 214 13 = g17 214 13 := F_62 _ _ (by unfold fr_M_readMark; omega)
    have m_67 : 0 ≤ (g19 214 15) ∧ (g19 214 15) ≤ 400 := I_61.1 214 15
    exact hQ _ _ I_61 F_63 ⟨by omega, by omega⟩ (by omega) (by omega) (by repeat first | assumption | refine zt3_u (by assumption) (by decide) ?_ | refine (by assumption : zt3 _ → zt3 _) ?_) (by omega)
  · have m_68 : 0 ≤ (g13 214 14) ∧ (g13 214 14) ≤ 400 := I_40.1 214 14
    have m_69 : 0 ≤ (g13 214 13) ∧ (g13 214 13) ≤ 400 := I_40.1 214 13
    have m_70 : g13 214 13 = g 214 13 := F_41 _ _ (by unfold fr_M_readNumber; omega)
    have m_71 : 0 ≤ (g13 214 15) ∧ (g13 214 15) ≤ 400 := I_40.1 214 15
    exact hQ _ _ I_40 F_42 ⟨by omega, by omega⟩ (by omega) (by omega) (by repeat first | assumption | refine zt3_u (by assumption) (by decide) ?_ | refine (by assumption : zt3 _ → zt3 _) ?_) (by omega)
set_option maxRecDepth 100000 in
set_option maxHeartbeats 4000000 in
theorem k_M_readGutter {g : zi_M} {Q : Int → zi_M → Prop} (I : zk_I g) (px0 : g 214 14 ≤ g 214 13) (px1 : g 214 15 ≤ g 214 14) (px2 : zt3 g) (hQ : ∀ (v : Int) (g' : zi_M), zk_I g' → zk_fr fr_M_readGutter g g' → ((-1) ≤ v ∧ v ≤ 0) → (g' 214 14 ≤ g' 214 13) → (g' 214 15 ≤ g' 214 14) → (zt3 g') → (g 214 15 ≤ g' 214 15) → Q v g') : w_M_readGutter g Q := by
  unfold w_M_readGutter
  have m_1 : 0 ≤ (g 214 6) ∧ (g 214 6) ≤ 10 := I.1 214 6
  have m_2 : 0 ≤ (g 214 14) ∧ (g 214 14) ≤ 400 := I.1 214 14
  have m_3 : 0 ≤ (g 214 13) ∧ (g 214 13) ≤ 400 := I.1 214 13
  have m_4 : 0 ≤ (g 214 15) ∧ (g 214 15) ≤ 400 := I.1 214 15
  refine k_M_readTold I ⟨by omega, by omega⟩ ⟨by omega, by omega⟩ ⟨by omega, by omega⟩ (by omega) (by omega) (by repeat first | assumption | refine zt3_u (by assumption) (by decide) ?_ | refine (by assumption : zt3 _ → zt3 _) ?_) (fun v1 g2 I_11 F_12 b_5 b_6 b_7 b_8 b_9 b_10 => ?_)
  have F_13 : zk_fr fr_M_readGutter g g2 := zk_ft (zk_f0 _) F_12 (fun a i => (fun h => Or.elim h (fun h => (Or.inr (Or.inl h))) (fun h => Or.elim h (fun h => (Or.inr (Or.inr (Or.inl h)))) (fun h => Or.elim h (fun h => (Or.inr (Or.inr (Or.inr (Or.inl h))))) (fun h => Or.elim h (fun h => (Or.inr (Or.inr (Or.inr (Or.inr (Or.inl h)))))) (fun h => Or.elim h (fun h => (Or.inr (Or.inr (Or.inr (Or.inr (Or.inr (Or.inl h))))))) (fun h => (Or.inr (Or.inr (Or.inr (Or.inr (Or.inr (Or.inr h)))))))))))))
  refine ⟨⟨by omega, by omega⟩, ?_⟩
  refine ⟨fun c32 => ?_, fun c32 => ?_⟩
  · have m_17 : 0 ≤ (g2 214 16) ∧ (g2 214 16) ≤ 4 := I_11.1 214 16
    have m_18 : (-1) ≤ (g2 214 17) ∧ (g2 214 17) ≤ 100000 := I_11.1 214 17
    refine k_M_isWord I_11 ⟨by omega, by omega⟩ (fun v5 b_14 b_15 b_16 => ?_)
    refine ⟨fun c31 => ?_, fun c31 => ?_⟩
    · have m_19 : 0 ≤ (g2 214 14) ∧ (g2 214 14) ≤ 400 := I_11.1 214 14
      have m_20 : 0 ≤ (g2 214 13) ∧ (g2 214 13) ≤ 400 := I_11.1 214 13
      have m_21 : g2 214 13 = g 214 13 := F_12 _ _ (by unfold fr_M_readTold; omega)
      refine k_M_reads I_11 (by omega) (fun g9 I_26 F_27 b_22 b_23 b_24 b_25 => ?_)
      have F_28 : zk_fr fr_M_readGutter g g9 := zk_ft F_13 F_27 (fun a i => (fun h => Or.elim h (fun h => (Or.inr (Or.inl h))) (fun h => Or.elim h (fun h => (Or.inr (Or.inr (Or.inl h)))) (fun h => Or.elim h (fun h => (Or.inr (Or.inr (Or.inr (Or.inl h))))) (fun h => (Or.inr (Or.inr (Or.inr (Or.inr (Or.inl h))))))))))
      have m_29 : 0 ≤ (g9 214 16) ∧ (g9 214 16) ≤ 4 := I_26.1 214 16
      refine ⟨⟨by omega, by omega⟩, ?_⟩
      refine ⟨fun c27 => ?_, fun c27 => ?_⟩
      · have m_72 : 0 ≤ (g9 214 14) ∧ (g9 214 14) ≤ 400 := I_26.1 214 14
        have m_73 : 0 ≤ (g9 214 13) ∧ (g9 214 13) ≤ 400 := I_26.1 214 13
        have m_74 : g9 214 13 = g2 214 13 := F_27 _ _ (by unfold fr_M_reads; omega)
        have m_75 : 0 ≤ (g9 214 15) ∧ (g9 214 15) ≤ 400 := I_26.1 214 15
        exact k_M_readGutter_b62 I_26 F_28 ⟨by omega, by omega⟩ (by omega) (by omega) (by repeat first | assumption | refine zt3_u (by assumption) (by decide) ?_ | refine (by assumption : zt3 _ → zt3 _) ?_) (by omega) hQ
      · have m_76 : (-1) ≤ (g9 214 17) ∧ (g9 214 17) ≤ 100000 := I_26.1 214 17
        refine ⟨⟨by omega, by omega⟩, ?_⟩
        refine ⟨fun c26 => ?_, fun c26 => ?_⟩
        · have m_77 : 0 ≤ (g9 214 14) ∧ (g9 214 14) ≤ 400 := I_26.1 214 14
          have m_78 : 0 ≤ (g9 214 13) ∧ (g9 214 13) ≤ 400 := I_26.1 214 13
          have m_79 : g9 214 13 = g2 214 13 := F_27 _ _ (by unfold fr_M_reads; omega)
          have m_80 : 0 ≤ (g9 214 15) ∧ (g9 214 15) ≤ 400 := I_26.1 214 15
          exact k_M_readGutter_b62 I_26 F_28 ⟨by omega, by omega⟩ (by omega) (by omega) (by repeat first | assumption | refine zt3_u (by assumption) (by decide) ?_ | refine (by assumption : zt3 _ → zt3 _) ?_) (by omega) hQ
        · refine k_M_errs I_26 ⟨by omega, by omega⟩ (fun v23 g24 I_83 F_84 b_81 b_82 => ?_)
          have F_85 : zk_fr fr_M_readGutter g g24 := zk_ft F_28 F_84 (fun a i => (fun h => Or.elim h (fun h => (Or.inr (Or.inr (Or.inr (Or.inr (Or.inr (Or.inl h))))))) (fun h => (Or.inr (Or.inr (Or.inr (Or.inr (Or.inr (Or.inr h)))))))))
          have m_86 : 0 ≤ (g24 214 14) ∧ (g24 214 14) ≤ 400 := I_83.1 214 14
          have m_87 : g24 214 14 = g9 214 14 := F_84 _ _ (by unfold fr_M_errs; omega)
          have m_88 : 0 ≤ (g9 214 14) ∧ (g9 214 14) ≤ 400 := I_26.1 214 14
          have m_89 : 0 ≤ (g24 214 13) ∧ (g24 214 13) ≤ 400 := I_83.1 214 13
          have m_90 : g24 214 13 = g9 214 13 := F_84 _ _ (by unfold fr_M_errs; omega)
          have m_91 : 0 ≤ (g9 214 13) ∧ (g9 214 13) ≤ 400 := I_26.1 214 13
          have m_92 : g9 214 13 = g2 214 13 := F_27 _ _ (by unfold fr_M_reads; omega)
          have m_93 : 0 ≤ (g24 214 15) ∧ (g24 214 15) ≤ 400 := I_83.1 214 15
          have m_94 : g24 214 15 = g9 214 15 := F_84 _ _ (by unfold fr_M_errs; omega)
          have m_95 : 0 ≤ (g9 214 15) ∧ (g9 214 15) ≤ 400 := I_26.1 214 15
          exact hQ _ _ I_83 F_85 ⟨by omega, by omega⟩ (by omega) (by omega) (by repeat first | assumption | refine zt3_u (by assumption) (by decide) ?_ | refine (by assumption : zt3 _ → zt3 _) ?_) (by omega)
    · refine k_M_errs I_11 ⟨by omega, by omega⟩ (fun v28 g29 I_98 F_99 b_96 b_97 => ?_)
      have F_100 : zk_fr fr_M_readGutter g g29 := zk_ft F_13 F_99 (fun a i => (fun h => Or.elim h (fun h => (Or.inr (Or.inr (Or.inr (Or.inr (Or.inr (Or.inl h))))))) (fun h => (Or.inr (Or.inr (Or.inr (Or.inr (Or.inr (Or.inr h)))))))))
      have m_101 : 0 ≤ (g29 214 14) ∧ (g29 214 14) ≤ 400 := I_98.1 214 14
      have m_102 : g29 214 14 = g2 214 14 := F_99 _ _ (by unfold fr_M_errs; omega)
      have m_103 : 0 ≤ (g2 214 14) ∧ (g2 214 14) ≤ 400 := I_11.1 214 14
      have m_104 : 0 ≤ (g29 214 13) ∧ (g29 214 13) ≤ 400 := I_98.1 214 13
      have m_105 : g29 214 13 = g2 214 13 := F_99 _ _ (by unfold fr_M_errs; omega)
      have m_106 : 0 ≤ (g2 214 13) ∧ (g2 214 13) ≤ 400 := I_11.1 214 13
      have m_107 : g2 214 13 = g 214 13 := F_12 _ _ (by unfold fr_M_readTold; omega)
      have m_108 : 0 ≤ (g29 214 15) ∧ (g29 214 15) ≤ 400 := I_98.1 214 15
      have m_109 : g29 214 15 = g2 214 15 := F_99 _ _ (by unfold fr_M_errs; omega)
      have m_110 : 0 ≤ (g2 214 15) ∧ (g2 214 15) ≤ 400 := I_11.1 214 15
      exact hQ _ _ I_98 F_100 ⟨by omega, by omega⟩ (by omega) (by omega) (by repeat first | assumption | refine zt3_u (by assumption) (by decide) ?_ | refine (by assumption : zt3 _ → zt3 _) ?_) (by omega)
  · have m_111 : 0 ≤ (g2 214 14) ∧ (g2 214 14) ≤ 400 := I_11.1 214 14
    have m_112 : 0 ≤ (g2 214 13) ∧ (g2 214 13) ≤ 400 := I_11.1 214 13
    have m_113 : g2 214 13 = g 214 13 := F_12 _ _ (by unfold fr_M_readTold; omega)
    have m_114 : 0 ≤ (g2 214 15) ∧ (g2 214 15) ≤ 400 := I_11.1 214 15
    exact hQ _ _ I_11 F_13 ⟨by omega, by omega⟩ (by omega) (by omega) (by repeat first | assumption | refine zt3_u (by assumption) (by decide) ?_ | refine (by assumption : zt3 _ → zt3 _) ?_) (by omega)
-- SpoutNewsModel.readGutters()I
noncomputable def fr_M_readGutters (a : Nat) (i : Int) : Prop := a = 232 ∨ (a = 214 ∧ i = 14) ∨ (a = 214 ∧ i = 15) ∨ (a = 214 ∧ i = 16) ∨ (a = 214 ∧ i = 17) ∨ (a = 214 ∧ i = 31) ∨ (a = 214 ∧ i = 32)
set_option maxRecDepth 100000 in
set_option maxHeartbeats 4000000 in
theorem k_M_readGutters_l2 {K24 : zi_M → Prop} {Q : Int → zi_M → Prop} {g0 : zi_M} (hK24 : ∀ (g : zi_M), zk_I g → zk_fr fr_M_readGutters g0 g → (g 214 14 ≤ g 214 13) → (g 214 15 ≤ g 214 14) → (zt3 g) → (g0 214 15 ≤ g 214 15) → K24 g) (hQ : ∀ (v : Int) (g' : zi_M), zk_I g' → zk_fr fr_M_readGutters g0 g' → ((-1) ≤ v ∧ v ≤ 16) → Q v g') : ∀ (n : Nat) {l1 : Int} {g : zi_M}, zk_I g → zk_fr fr_M_readGutters g0 g → (0 ≤ l1 ∧ l1 ≤ 10) → (g 214 14 ≤ g 214 13) → (g 214 15 ≤ g 214 14) → (zt3 g) → (g0 214 15 ≤ g 214 15) → 10 - l1 < (n : Int) → w_M_readGutters_l2 K24 Q n l1 g
  | 0, l1, g, I, F, b0, b1, b2, b3, b4, hm => by exfalso; omega
  | n + 1, l1, g, I, F, b0, b1, b2, b3, b4, hm => by
    unfold w_M_readGutters_l2
    refine ⟨⟨by omega, by omega⟩, ?_⟩
    refine ⟨fun c4 => ?_, fun c4 => ?_⟩
    · have m_1 : 0 ≤ (g 214 14) ∧ (g 214 14) ≤ 400 := I.1 214 14
      have m_2 : 0 ≤ (g 214 13) ∧ (g 214 13) ≤ 400 := I.1 214 13
      have m_3 : 0 ≤ (g 214 15) ∧ (g 214 15) ≤ 400 := I.1 214 15
      exact hK24 _ I F (by omega) (by omega) (by repeat first | assumption | refine zt3_u (by assumption) (by decide) ?_ | refine (by assumption : zt3 _ → zt3 _) ?_) (by omega)
    · refine ⟨⟨by omega, by omega⟩, ?_⟩
      intro g3 e_4
      have I_5 : zk_I g3 := by rw [e_4]; exact zk_upd (L := 0) (H := 10) rfl rfl I ⟨by omega, by omega⟩
      have F_6 : zk_fr fr_M_readGutters g0 g3 := by rw [e_4]; exact zk_fu F (Or.inl rfl)
      have m_7 : 0 ≤ (g3 214 14) ∧ (g3 214 14) ≤ 400 := I_5.1 214 14
      have m_8 : g3 214 14 = g 214 14 := by rw [e_4]; exact zi_u_ne (by decide)
      have m_9 : 0 ≤ (g 214 14) ∧ (g 214 14) ≤ 400 := I.1 214 14
      have m_10 : 0 ≤ (g3 214 13) ∧ (g3 214 13) ≤ 400 := I_5.1 214 13
      have m_11 : g3 214 13 = g 214 13 := by rw [e_4]; exact zi_u_ne (by decide)
      have m_12 : 0 ≤ (g 214 13) ∧ (g 214 13) ≤ 400 := I.1 214 13
      have m_13 : 0 ≤ (g3 214 15) ∧ (g3 214 15) ≤ 400 := I_5.1 214 15
      have m_14 : g3 214 15 = g 214 15 := by rw [e_4]; exact zi_u_ne (by decide)
      have m_15 : 0 ≤ (g 214 15) ∧ (g 214 15) ≤ 400 := I.1 214 15
      exact k_M_readGutters_l2 hK24 hQ n I_5 F_6 ⟨by omega, by omega⟩ (by omega) (by omega) (by repeat first | assumption | refine zt3_u (by assumption) (by decide) ?_ | refine (by assumption : zt3 _ → zt3 _) ?_) (by omega) (by omega)
set_option maxRecDepth 100000 in
set_option maxHeartbeats 4000000 in
theorem k_M_readGutters_l26 {K41 : zi_M → Prop} {K55 : zi_M → Prop} {K64 : Int → zi_M → Prop} {Q : Int → zi_M → Prop} {g0 : zi_M} (hK41 : ∀ (g : zi_M), zk_I g → zk_fr fr_M_readGutters g0 g → K41 g) (hK55 : ∀ (g : zi_M), zk_I g → zk_fr fr_M_readGutters g0 g → K55 g) (hK64 : ∀ (k1 : Int) (g : zi_M), zk_I g → zk_fr fr_M_readGutters g0 g → (0 ≤ k1 ∧ k1 ≤ 16) → K64 k1 g) (hQ : ∀ (v : Int) (g' : zi_M), zk_I g' → zk_fr fr_M_readGutters g0 g' → ((-1) ≤ v ∧ v ≤ 16) → Q v g') : ∀ (n : Nat) {l1 : Int} {g : zi_M}, zk_I g → zk_fr fr_M_readGutters g0 g → (0 ≤ l1 ∧ l1 ≤ 16) → (g 214 14 ≤ g 214 13) → (g 214 15 ≤ g 214 14) → (zt3 g) → (g0 214 15 ≤ g 214 15) → 16 - l1 < (n : Int) → w_M_readGutters_l26 K41 K55 K64 Q n l1 g
  | 0, l1, g, I, F, b0, b1, b2, b3, b4, hm => by exfalso; omega
  | n + 1, l1, g, I, F, b0, b1, b2, b3, b4, hm => by
    unfold w_M_readGutters_l26
    have m_25 : 0 ≤ (g 214 16) ∧ (g 214 16) ≤ 4 := I.1 214 16
    have m_26 : (-1) ≤ (g 214 17) ∧ (g 214 17) ≤ 100000 := I.1 214 17
    refine k_M_isWord I ⟨by omega, by omega⟩ (fun v6 b_22 b_23 b_24 => ?_)
    refine ⟨fun c16 => ?_, fun c16 => ?_⟩
    · exact hK64 _ _ I F ⟨by omega, by omega⟩
    · refine ⟨⟨by omega, by omega⟩, ?_⟩
      refine ⟨fun c15 => ?_, fun c15 => ?_⟩
      · have m_27 : 0 ≤ (g 214 14) ∧ (g 214 14) ≤ 400 := I.1 214 14
        have m_28 : 0 ≤ (g 214 13) ∧ (g 214 13) ≤ 400 := I.1 214 13
        have m_29 : 0 ≤ (g 214 15) ∧ (g 214 15) ≤ 400 := I.1 214 15
        refine k_M_readGutter I (by omega) (by omega) (by repeat first | assumption | refine zt3_u (by assumption) (by decide) ?_ | refine (by assumption : zt3 _ → zt3 _) ?_) (fun v10 g11 I_35 F_36 b_30 b_31 b_32 b_33 b_34 => ?_)
        have F_37 : zk_fr fr_M_readGutters g0 g11 := zk_ft F F_36 (fun a i => (fun h => Or.elim h (fun h => (Or.inl h)) (fun h => Or.elim h (fun h => (Or.inr (Or.inl h))) (fun h => Or.elim h (fun h => (Or.inr (Or.inr (Or.inl h)))) (fun h => Or.elim h (fun h => (Or.inr (Or.inr (Or.inr (Or.inl h))))) (fun h => Or.elim h (fun h => (Or.inr (Or.inr (Or.inr (Or.inr (Or.inl h)))))) (fun h => Or.elim h (fun h => (Or.inr (Or.inr (Or.inr (Or.inr (Or.inr (Or.inl h))))))) (fun h => (Or.inr (Or.inr (Or.inr (Or.inr (Or.inr (Or.inr h))))))))))))))
        refine ⟨⟨by omega, by omega⟩, ?_⟩
        refine ⟨fun c14 => ?_, fun c14 => ?_⟩
        · have m_38 : 0 ≤ (g11 214 14) ∧ (g11 214 14) ≤ 400 := I_35.1 214 14
          have m_39 : 0 ≤ (g11 214 13) ∧ (g11 214 13) ≤ 400 := I_35.1 214 13
          have m_40 : g11 214 13 = g 214 13 := F_36 _ _ (by unfold fr_M_readGutter; omega)
          have m_41 : 0 ≤ (g11 214 15) ∧ (g11 214 15) ≤ 400 := I_35.1 214 15
          exact k_M_readGutters_l26 hK41 hK55 hK64 hQ n I_35 F_37 ⟨by omega, by omega⟩ (by omega) (by omega) (by repeat first | assumption | refine zt3_u (by assumption) (by decide) ?_ | refine (by assumption : zt3 _ → zt3 _) ?_) (by omega) (by omega)
        · exact hK55 _ I_35 F_37
      · exact hK41 _ I F
set_option maxRecDepth 100000 in
set_option maxHeartbeats 4000000 in
theorem k_M_readGutters {g : zi_M} {Q : Int → zi_M → Prop} (I : zk_I g) (px0 : g 214 14 ≤ g 214 13) (px1 : g 214 15 ≤ g 214 14) (px2 : zt3 g) (hQ : ∀ (v : Int) (g' : zi_M), zk_I g' → zk_fr fr_M_readGutters g g' → ((-1) ≤ v ∧ v ≤ 16) → Q v g') : w_M_readGutters g Q := by
  unfold w_M_readGutters
  have m_63 : 0 ≤ (g 214 14) ∧ (g 214 14) ≤ 400 := I.1 214 14
  have m_64 : 0 ≤ (g 214 13) ∧ (g 214 13) ≤ 400 := I.1 214 13
  have m_65 : 0 ≤ (g 214 15) ∧ (g 214 15) ≤ 400 := I.1 214 15
  refine ⟨((10 - 0 : Int).toNat + 1), k_M_readGutters_l2 (fun g5 I_16 F_17 b_18 b_19 b_20 b_21 => ?_) hQ ((10 - 0 : Int).toNat + 1) I (zk_f0 _) ⟨by omega, by omega⟩ (by omega) (by omega) (by repeat first | assumption | refine zt3_u (by assumption) (by decide) ?_ | refine (by assumption : zt3 _ → zt3 _) ?_) (by omega) (by omega)⟩
  have m_60 : 0 ≤ (g5 214 14) ∧ (g5 214 14) ≤ 400 := I_16.1 214 14
  have m_61 : 0 ≤ (g5 214 13) ∧ (g5 214 13) ≤ 400 := I_16.1 214 13
  have m_62 : 0 ≤ (g5 214 15) ∧ (g5 214 15) ≤ 400 := I_16.1 214 15
  refine ⟨((16 - 0 : Int).toNat + 1), k_M_readGutters_l26 (fun g17 I_42 F_43 => ?_) (fun g21 I_49 F_50 => ?_) (fun k22 g23 I_51 F_52 b_53 => ?_) hQ ((16 - 0 : Int).toNat + 1) I_16 F_17 ⟨by omega, by omega⟩ (by omega) (by omega) (by repeat first | assumption | refine zt3_u (by assumption) (by decide) ?_ | refine (by assumption : zt3 _ → zt3 _) ?_) (by omega) (by omega)⟩
  · refine k_M_errs I_42 ⟨by omega, by omega⟩ (fun v18 g19 I_46 F_47 b_44 b_45 => ?_)
    have F_48 : zk_fr fr_M_readGutters g g19 := zk_ft F_43 F_47 (fun a i => (fun h => Or.elim h (fun h => (Or.inr (Or.inr (Or.inr (Or.inr (Or.inr (Or.inl h))))))) (fun h => (Or.inr (Or.inr (Or.inr (Or.inr (Or.inr (Or.inr h)))))))))
    exact hQ _ _ I_46 F_48 ⟨by omega, by omega⟩
  · exact hQ _ _ I_49 F_50 ⟨by omega, by omega⟩
  · have m_54 : 0 ≤ (g23 214 16) ∧ (g23 214 16) ≤ 4 := I_51.1 214 16
    refine ⟨⟨by omega, by omega⟩, ?_⟩
    refine ⟨fun c28 => ?_, fun c28 => ?_⟩
    · refine k_M_errs I_51 ⟨by omega, by omega⟩ (fun v25 g26 I_57 F_58 b_55 b_56 => ?_)
      have F_59 : zk_fr fr_M_readGutters g g26 := zk_ft F_52 F_58 (fun a i => (fun h => Or.elim h (fun h => (Or.inr (Or.inr (Or.inr (Or.inr (Or.inr (Or.inl h))))))) (fun h => (Or.inr (Or.inr (Or.inr (Or.inr (Or.inr (Or.inr h)))))))))
      exact hQ _ _ I_57 F_59 ⟨by omega, by omega⟩
    · exact hQ _ _ I_51 F_52 ⟨by omega, by omega⟩
-- SpoutNewsModel.readsText(I)I
noncomputable def fr_M_readsText (a : Nat) (i : Int) : Prop := a = 225 ∨ a = 226 ∨ a = 227 ∨ a = 228 ∨ a = 229 ∨ a = 230 ∨ a = 231 ∨ a = 232 ∨ a = 233 ∨ a = 234 ∨ (a = 214 ∧ i = 14) ∨ (a = 214 ∧ i = 15) ∨ (a = 214 ∧ i = 16) ∨ (a = 214 ∧ i = 17) ∨ (a = 214 ∧ i = 26) ∨ (a = 214 ∧ i = 27) ∨ (a = 214 ∧ i = 28) ∨ (a = 214 ∧ i = 30) ∨ (a = 214 ∧ i = 31) ∨ (a = 214 ∧ i = 32)
theorem k_M_readsText {l1 : Int} {g : zi_M} {Q : Int → zi_M → Prop} (I : zk_I g) (p1 : (-2147483648) ≤ l1 ∧ l1 ≤ 2147483647) (px0 : g 214 14 ≤ g 214 13) (px1 : g 214 27 = 0) (px2 : g 214 28 = 0) (hQ : ∀ (v : Int) (g' : zi_M), zk_I g' → zk_fr fr_M_readsText g g' → ((-1) ≤ v ∧ v ≤ 16) → (¬ v = -1 → l1 = 3 → zd g' v) → (¬ v = -1 → l1 = 0 → zLd g' v) → Q v g') : w_M_readsText l1 g Q := by
  unfold w_M_readsText
  intro g1 e1
  have I1 : zk_I g1 := by rw [e1]; exact zk_upd (L := 0) (H := 0) rfl rfl I ⟨by decide, by decide⟩
  have f1 : ∀ i : Int, ¬ i = 26 → g1 214 i = g 214 i := fun i hi => by rw [e1]; exact zi_u_ni hi
  have w26 : ∀ a i, (a = 214 ∧ i = 26) → fr_M_readsText a i := fun a i h => by
    unfold fr_M_readsText
    exact Or.inr (Or.inr (Or.inr (Or.inr (Or.inr (Or.inr (Or.inr (Or.inr (Or.inr (Or.inr (Or.inr (Or.inr (Or.inr (Or.inr (Or.inl h))))))))))))))
  have F1 : zk_fr fr_M_readsText g g1 := by rw [e1]; exact zk_fu (zk_f0 _) (w26 _ _ ⟨rfl, rfl⟩)
  have LT : ∀ a i, fr_L a i → fr_M_readsText a i := by
    intro a i h
    unfold fr_L at h
    unfold fr_M_readsText
    rcases h with h | h | h | h | h | h | h | h | h | h | h | h | h | h | h | h <;> simp [h]
  refine k_M_reads I1 (by rw [f1 14 (by decide), f1 13 (by decide)]; exact px0) (fun g3 I3 F3 p1 p2 p3 p4 => ?_)
  have c3 : g3 214 27 = 0 := by rw [F3 _ _ (by unfold fr_M_reads; omega), f1 27 (by decide)]; exact px1
  have o3 : g3 214 28 = 0 := by rw [F3 _ _ (by unfold fr_M_reads; omega), f1 28 (by decide)]; exact px2
  have b15 : 0 ≤ g3 214 15 := (I3.1 214 15).1
  have G3 : zk_fr fr_M_readsText g g3 := zk_ft F1 F3 (fun a i h => LT a i (fr_RL a i h))
  refine ⟨⟨by omega, by omega⟩, fun n1 => ⟨fun n2 => ⟨fun n3 => ?_, fun e3 => ?_⟩, fun e2 => ?_⟩, fun e1 => ?_⟩
  · refine k_M_readLaw I3 ⟨I3, p2, p3, p4, by omega⟩ o3 (fun v g' I' F' hv h => ?_)
    exact hQ _ _ I' (zk_ft G3 F' LT) hv (fun _ q => absurd q n3) (fun q _ => h q)
  · refine k_M_readPlan I3 p2 p3 p4 (fun v g' I' F' hv h => ?_)
    exact hQ _ _ I' (zk_ft G3 F' (fun a i h => by unfold fr_M_readPlan at h; unfold fr_M_readsText; rcases h with h | h | h | h | h | h | h <;> simp [h])) hv (fun q _ => h q) (fun _ q => by omega)
  · refine k_M_readWeather I3 p2 p3 p4 (fun v g' I' F' hv => ?_)
    exact hQ _ _ I' (zk_ft G3 F' (fun a i h => by unfold fr_M_readWeather at h; unfold fr_M_readsText; rcases h with h | h | h | h | h | h | h <;> simp [h])) hv (fun _ q => by omega) (fun _ q => by omega)
  · refine k_M_readGutters I3 p2 p3 p4 (fun v g' I' F' hv => ?_)
    exact hQ _ _ I' (zk_ft G3 F' (fun a i h => by unfold fr_M_readGutters at h; unfold fr_M_readsText; rcases h with h | h | h | h | h | h | h <;> simp [h])) hv (fun _ q => by omega) (fun _ q => by omega)

-- SpoutNewsModel.text(I)I
noncomputable def fr_M_text (a : Nat) (i : Int) : Prop := a = 224 ∨ a = 225 ∨ a = 226 ∨ a = 227 ∨ a = 228 ∨ a = 229 ∨ a = 230 ∨ a = 231 ∨ a = 232 ∨ a = 233 ∨ a = 234 ∨ (a = 214 ∧ i = 0) ∨ (a = 214 ∧ i = 13) ∨ (a = 214 ∧ i = 14) ∨ (a = 214 ∧ i = 15) ∨ (a = 214 ∧ i = 16) ∨ (a = 214 ∧ i = 17) ∨ (a = 214 ∧ i = 26) ∨ (a = 214 ∧ i = 27) ∨ (a = 214 ∧ i = 28) ∨ (a = 214 ∧ i = 3) ∨ (a = 214 ∧ i = 30) ∨ (a = 214 ∧ i = 31) ∨ (a = 214 ∧ i = 32) ∨ (a = 214 ∧ i = 33) ∨ (a = 214 ∧ i = 34) ∨ (a = 214 ∧ i = 35) ∨ (a = 214 ∧ i = 37) ∨ (a = 214 ∧ i = 39)
set_option maxRecDepth 100000 in
set_option maxHeartbeats 4000000 in
theorem k_M_text_b69 {l1 : Int} {l2 : Int} {Q : Int → zi_M → Prop} {g : zi_M} {g0 : zi_M} (I : zk_I g) (F : zk_fr fr_M_text g0 g) (p1 : (-2147483648) ≤ l1 ∧ l1 ≤ 2147483647) (p2 : (-1) ≤ l2 ∧ l2 ≤ 16) (ix0 : ¬ l2 = -1 → l1 = 3 → zd g l2) (ix1 : ¬ l2 = -1 → l1 = 0 → zLd g l2) (ix2 : ¬ l2 = -1 → 0 ≤ l1 ∧ l1 ≤ 3) (hQ : ∀ (v : Int) (g' : zi_M), zk_I g' → zk_fr fr_M_text g0 g' → ((-1) ≤ v ∧ v ≤ 16) → (g' 214 13 = 0) → Q v g') : w_M_text_b69 l1 l2 g Q := by
  unfold w_M_text_b69
  intro g10 e_22
  have I_23 : zk_I g10 := by rw [e_22]; exact zk_upd (L := 0) (H := 400) rfl rfl I ⟨by omega, by omega⟩
  have F_24 : zk_fr fr_M_text g0 g10 := by rw [e_22]; exact zk_fu F (Or.inr (Or.inr (Or.inr (Or.inr (Or.inr (Or.inr (Or.inr (Or.inr (Or.inr (Or.inr (Or.inr (Or.inr (Or.inl ⟨rfl, rfl⟩)))))))))))))
  refine ⟨⟨by omega, by omega⟩, ?_⟩
  refine ⟨fun c20 => ?_, fun c20 => ?_⟩
  · refine ⟨⟨by omega, by omega⟩, ?_⟩
    refine ⟨fun c19 => ?_, fun c19 => ?_⟩
    · refine k_M_takesOther I_23 ⟨by omega, by omega⟩ ⟨by omega, by omega⟩ (by omega) (by intro h3; exact zd_u (by assumption) (ix0 (by omega) h3)) (fun g14 I_25 F_26 => ?_)
      have F_27 : zk_fr fr_M_text g0 g14 := zk_ft F_24 F_26 (fun a i => (fun h => Or.elim h (fun h => (Or.inr (Or.inr (Or.inr (Or.inr (Or.inr (Or.inr (Or.inr (Or.inr (Or.inl h)))))))))) (fun h => Or.elim h (fun h => (Or.inr (Or.inr (Or.inr (Or.inr (Or.inr (Or.inr (Or.inr (Or.inr (Or.inr (Or.inl h))))))))))) (fun h => Or.elim h (fun h => (Or.inr (Or.inr (Or.inr (Or.inr (Or.inr (Or.inr (Or.inr (Or.inr (Or.inr (Or.inr (Or.inl h)))))))))))) (fun h => Or.elim h (fun h => (Or.inr (Or.inr (Or.inr (Or.inr (Or.inr (Or.inr (Or.inr (Or.inr (Or.inr (Or.inr (Or.inr (Or.inr (Or.inr (Or.inr (Or.inr (Or.inr (Or.inr (Or.inr (Or.inr (Or.inr (Or.inl h)))))))))))))))))))))) (fun h => Or.elim h (fun h => (Or.inr (Or.inr (Or.inr (Or.inr (Or.inr (Or.inr (Or.inr (Or.inr (Or.inr (Or.inr (Or.inr (Or.inr (Or.inr (Or.inr (Or.inr (Or.inr (Or.inr (Or.inr (Or.inr (Or.inr (Or.inr (Or.inr (Or.inr (Or.inr (Or.inr (Or.inr (Or.inl h)))))))))))))))))))))))))))) (fun h => Or.elim h (fun h => (Or.inr (Or.inr (Or.inr (Or.inr (Or.inr (Or.inr (Or.inr (Or.inr (Or.inr (Or.inr (Or.inr (Or.inr (Or.inr (Or.inr (Or.inr (Or.inr (Or.inr (Or.inr (Or.inr (Or.inr (Or.inr (Or.inr (Or.inr (Or.inr (Or.inr (Or.inr (Or.inr (Or.inl h))))))))))))))))))))))))))))) (fun h => (Or.inr (Or.inr (Or.inr (Or.inr (Or.inr (Or.inr (Or.inr (Or.inr (Or.inr (Or.inr (Or.inr (Or.inr (Or.inr (Or.inr (Or.inr (Or.inr (Or.inr (Or.inr (Or.inr (Or.inr (Or.inr (Or.inr (Or.inr (Or.inr (Or.inr (Or.inr (Or.inr (Or.inr h))))))))))))))))))))))))))))))))))))
      have m_28 : 0 ≤ (g14 214 13) ∧ (g14 214 13) ≤ 400 := I_25.1 214 13
      have m_29 : g14 214 13 = g10 214 13 := F_26 _ _ (by unfold fr_M_takesOther; omega)
      have m_30 : 0 ≤ (g10 214 13) ∧ (g10 214 13) ≤ 400 := I_23.1 214 13
      have m_31 : g10 214 13 = 0 := by rw [e_22]; exact zi_u_eq
      exact hQ _ _ I_25 F_27 ⟨by omega, by omega⟩ (by omega)
    · refine k_M_takesLaw I_23 ⟨by omega, by omega⟩ (by exact zLd_u (by assumption) (by decide) (ix1 (by omega) (by assumption))) (fun g17 I_32 F_33 => ?_)
      have F_34 : zk_fr fr_M_text g0 g17 := zk_ft F_24 F_33 (fun a i => (fun h => Or.elim h (fun h => (Or.inl h)) (fun h => Or.elim h (fun h => (Or.inr (Or.inl h))) (fun h => Or.elim h (fun h => (Or.inr (Or.inr (Or.inl h)))) (fun h => Or.elim h (fun h => (Or.inr (Or.inr (Or.inr (Or.inl h))))) (fun h => Or.elim h (fun h => (Or.inr (Or.inr (Or.inr (Or.inr (Or.inl h)))))) (fun h => Or.elim h (fun h => (Or.inr (Or.inr (Or.inr (Or.inr (Or.inr (Or.inl h))))))) (fun h => (Or.inr (Or.inr (Or.inr (Or.inr (Or.inr (Or.inr (Or.inl h)))))))))))))))
      have m_35 : 0 ≤ (g17 214 13) ∧ (g17 214 13) ≤ 400 := I_32.1 214 13
      have m_36 : g17 214 13 = g10 214 13 := F_33 _ _ (by unfold fr_M_takesLaw; omega)
      have m_37 : 0 ≤ (g10 214 13) ∧ (g10 214 13) ≤ 400 := I_23.1 214 13
      have m_38 : g10 214 13 = 0 := by rw [e_22]; exact zi_u_eq
      exact hQ _ _ I_32 F_34 ⟨by omega, by omega⟩ (by omega)
  · have m_39 : 0 ≤ (g10 214 13) ∧ (g10 214 13) ≤ 400 := I_23.1 214 13
    have m_40 : g10 214 13 = 0 := by rw [e_22]; exact zi_u_eq
    exact hQ _ _ I_23 F_24 ⟨by omega, by omega⟩ (by omega)
set_option maxRecDepth 100000 in
set_option maxHeartbeats 4000000 in
theorem k_M_text {l1 : Int} {g : zi_M} {Q : Int → zi_M → Prop} (I : zk_I g) (p1 : (-2147483648) ≤ l1 ∧ l1 ≤ 2147483647) (hQ : ∀ (v : Int) (g' : zi_M), zk_I g' → zk_fr fr_M_text g g' → ((-1) ≤ v ∧ v ≤ 16) → (g' 214 13 = 0) → Q v g') : w_M_text l1 g Q := by
  unfold w_M_text
  intro g1 e_1
  have I_2 : zk_I g1 := by rw [e_1]; exact zk_upd (L := (-2147483648)) (H := 2147483647) rfl rfl I ⟨by omega, by omega⟩
  have F_3 : zk_fr fr_M_text g g1 := by rw [e_1]; exact zk_fu (zk_f0 _) (Or.inr (Or.inr (Or.inr (Or.inr (Or.inr (Or.inr (Or.inr (Or.inr (Or.inr (Or.inr (Or.inr (Or.inl ⟨rfl, rfl⟩))))))))))))
  intro g2 e_4
  have I_5 : zk_I g2 := by rw [e_4]; exact zk_upd (L := 0) (H := 3) rfl rfl I_2 ⟨by omega, by omega⟩
  have F_6 : zk_fr fr_M_text g g2 := by rw [e_4]; exact zk_fu F_3 (Or.inr (Or.inr (Or.inr (Or.inr (Or.inr (Or.inr (Or.inr (Or.inr (Or.inr (Or.inr (Or.inr (Or.inr (Or.inr (Or.inr (Or.inr (Or.inr (Or.inr (Or.inr (Or.inr (Or.inr (Or.inr (Or.inr (Or.inr (Or.inr (Or.inl ⟨rfl, rfl⟩)))))))))))))))))))))))))
  intro g3 e_7
  have I_8 : zk_I g3 := by rw [e_7]; exact zk_upd (L := (-1)) (H := 400) rfl rfl I_5 ⟨by omega, by omega⟩
  have F_9 : zk_fr fr_M_text g g3 := by rw [e_7]; exact zk_fu F_6 (Or.inr (Or.inr (Or.inr (Or.inr (Or.inr (Or.inr (Or.inr (Or.inr (Or.inr (Or.inr (Or.inr (Or.inr (Or.inr (Or.inr (Or.inr (Or.inr (Or.inr (Or.inr (Or.inr (Or.inr (Or.inr (Or.inr (Or.inr (Or.inr (Or.inr (Or.inl ⟨rfl, rfl⟩))))))))))))))))))))))))))
  intro g4 e_10
  have I_11 : zk_I g4 := by rw [e_10]; exact zk_upd (L := 0) (H := 400) rfl rfl I_8 ⟨by omega, by omega⟩
  have F_12 : zk_fr fr_M_text g g4 := by rw [e_10]; exact zk_fu F_9 (Or.inr (Or.inr (Or.inr (Or.inr (Or.inr (Or.inr (Or.inr (Or.inr (Or.inr (Or.inr (Or.inr (Or.inr (Or.inr (Or.inl ⟨rfl, rfl⟩))))))))))))))
  intro g5 e_13
  have I_14 : zk_I g5 := by rw [e_13]; exact zk_upd (L := 0) (H := 400) rfl rfl I_11 ⟨by omega, by omega⟩
  have F_15 : zk_fr fr_M_text g g5 := by rw [e_13]; exact zk_fu F_12 (Or.inr (Or.inr (Or.inr (Or.inr (Or.inr (Or.inr (Or.inr (Or.inr (Or.inr (Or.inr (Or.inr (Or.inr (Or.inr (Or.inr (Or.inr (Or.inr (Or.inr (Or.inr (Or.inl ⟨rfl, rfl⟩)))))))))))))))))))
  intro g6 e_16
  have I_17 : zk_I g6 := by rw [e_16]; exact zk_upd (L := 0) (H := 8) rfl rfl I_14 ⟨by omega, by omega⟩
  have F_18 : zk_fr fr_M_text g g6 := by rw [e_16]; exact zk_fu F_15 (Or.inr (Or.inr (Or.inr (Or.inr (Or.inr (Or.inr (Or.inr (Or.inr (Or.inr (Or.inr (Or.inr (Or.inr (Or.inr (Or.inr (Or.inr (Or.inr (Or.inr (Or.inr (Or.inr (Or.inl ⟨rfl, rfl⟩))))))))))))))))))))
  refine k_M_isIn I_17 ⟨by omega, by omega⟩ ⟨by omega, by omega⟩ ⟨by omega, by omega⟩ (fun v7 b_19 b_20 b_21 => ?_)
  refine ⟨fun c28 => ?_, fun c28 => ?_⟩
  · exact k_M_text_b69 I_17 F_18 ⟨by omega, by omega⟩ ⟨by omega, by omega⟩ (by first | assumption | (intro hv; exfalso; omega)) (by first | assumption | (intro hv; exfalso; omega)) (by omega) hQ
  · have m_41 : 0 ≤ (g6 214 14) ∧ (g6 214 14) ≤ 400 := I_17.1 214 14
    have m_42 : g6 214 14 = g5 214 14 := by rw [e_16]; exact zi_u_ni (by decide)
    have m_43 : 0 ≤ (g5 214 14) ∧ (g5 214 14) ≤ 400 := I_14.1 214 14
    have m_44 : g5 214 14 = g4 214 14 := by rw [e_13]; exact zi_u_ni (by decide)
    have m_45 : 0 ≤ (g4 214 14) ∧ (g4 214 14) ≤ 400 := I_11.1 214 14
    have m_46 : g4 214 14 = 0 := by rw [e_10]; exact zi_u_eq
    have m_47 : 0 ≤ (g6 214 13) ∧ (g6 214 13) ≤ 400 := I_17.1 214 13
    have m_48 : g6 214 13 = g5 214 13 := by rw [e_16]; exact zi_u_ni (by decide)
    have m_49 : 0 ≤ (g5 214 13) ∧ (g5 214 13) ≤ 400 := I_14.1 214 13
    have m_50 : g5 214 13 = g4 214 13 := by rw [e_13]; exact zi_u_ni (by decide)
    have m_51 : 0 ≤ (g4 214 13) ∧ (g4 214 13) ≤ 400 := I_11.1 214 13
    have m_52 : g4 214 13 = g3 214 13 := by rw [e_10]; exact zi_u_ni (by decide)
    have m_53 : 0 ≤ (g3 214 13) ∧ (g3 214 13) ≤ 400 := I_8.1 214 13
    have m_54 : g3 214 13 = g2 214 13 := by rw [e_7]; exact zi_u_ni (by decide)
    have m_55 : 0 ≤ (g2 214 13) ∧ (g2 214 13) ≤ 400 := I_5.1 214 13
    have m_56 : g2 214 13 = g1 214 13 := by rw [e_4]; exact zi_u_ni (by decide)
    have m_57 : 0 ≤ (g1 214 13) ∧ (g1 214 13) ≤ 400 := I_2.1 214 13
    have m_58 : g1 214 13 = g 214 13 := by rw [e_1]; exact zi_u_ni (by decide)
    have m_59 : 0 ≤ (g 214 13) ∧ (g 214 13) ≤ 400 := I.1 214 13
    have m_60 : 0 ≤ (g6 214 27) ∧ (g6 214 27) ≤ 400 := I_17.1 214 27
    have m_61 : g6 214 27 = g5 214 27 := by rw [e_16]; exact zi_u_ni (by decide)
    have m_62 : 0 ≤ (g5 214 27) ∧ (g5 214 27) ≤ 400 := I_14.1 214 27
    have m_63 : g5 214 27 = 0 := by rw [e_13]; exact zi_u_eq
    have m_64 : 0 ≤ (g6 214 28) ∧ (g6 214 28) ≤ 8 := I_17.1 214 28
    have m_65 : g6 214 28 = 0 := by rw [e_16]; exact zi_u_eq
    refine k_M_readsText I_17 ⟨by omega, by omega⟩ (by omega) (by omega) (by omega) (fun v21 g22 I_69 F_70 b_66 b_67 b_68 => ?_)
    have F_71 : zk_fr fr_M_text g g22 := zk_ft F_18 F_70 (fun a i => (fun h => Or.elim h (fun h => (Or.inr (Or.inl h))) (fun h => Or.elim h (fun h => (Or.inr (Or.inr (Or.inl h)))) (fun h => Or.elim h (fun h => (Or.inr (Or.inr (Or.inr (Or.inl h))))) (fun h => Or.elim h (fun h => (Or.inr (Or.inr (Or.inr (Or.inr (Or.inl h)))))) (fun h => Or.elim h (fun h => (Or.inr (Or.inr (Or.inr (Or.inr (Or.inr (Or.inl h))))))) (fun h => Or.elim h (fun h => (Or.inr (Or.inr (Or.inr (Or.inr (Or.inr (Or.inr (Or.inl h)))))))) (fun h => Or.elim h (fun h => (Or.inr (Or.inr (Or.inr (Or.inr (Or.inr (Or.inr (Or.inr (Or.inl h))))))))) (fun h => Or.elim h (fun h => (Or.inr (Or.inr (Or.inr (Or.inr (Or.inr (Or.inr (Or.inr (Or.inr (Or.inl h)))))))))) (fun h => Or.elim h (fun h => (Or.inr (Or.inr (Or.inr (Or.inr (Or.inr (Or.inr (Or.inr (Or.inr (Or.inr (Or.inl h))))))))))) (fun h => Or.elim h (fun h => (Or.inr (Or.inr (Or.inr (Or.inr (Or.inr (Or.inr (Or.inr (Or.inr (Or.inr (Or.inr (Or.inl h)))))))))))) (fun h => Or.elim h (fun h => (Or.inr (Or.inr (Or.inr (Or.inr (Or.inr (Or.inr (Or.inr (Or.inr (Or.inr (Or.inr (Or.inr (Or.inr (Or.inr (Or.inl h))))))))))))))) (fun h => Or.elim h (fun h => (Or.inr (Or.inr (Or.inr (Or.inr (Or.inr (Or.inr (Or.inr (Or.inr (Or.inr (Or.inr (Or.inr (Or.inr (Or.inr (Or.inr (Or.inl h)))))))))))))))) (fun h => Or.elim h (fun h => (Or.inr (Or.inr (Or.inr (Or.inr (Or.inr (Or.inr (Or.inr (Or.inr (Or.inr (Or.inr (Or.inr (Or.inr (Or.inr (Or.inr (Or.inr (Or.inl h))))))))))))))))) (fun h => Or.elim h (fun h => (Or.inr (Or.inr (Or.inr (Or.inr (Or.inr (Or.inr (Or.inr (Or.inr (Or.inr (Or.inr (Or.inr (Or.inr (Or.inr (Or.inr (Or.inr (Or.inr (Or.inl h)))))))))))))))))) (fun h => Or.elim h (fun h => (Or.inr (Or.inr (Or.inr (Or.inr (Or.inr (Or.inr (Or.inr (Or.inr (Or.inr (Or.inr (Or.inr (Or.inr (Or.inr (Or.inr (Or.inr (Or.inr (Or.inr (Or.inl h))))))))))))))))))) (fun h => Or.elim h (fun h => (Or.inr (Or.inr (Or.inr (Or.inr (Or.inr (Or.inr (Or.inr (Or.inr (Or.inr (Or.inr (Or.inr (Or.inr (Or.inr (Or.inr (Or.inr (Or.inr (Or.inr (Or.inr (Or.inl h)))))))))))))))))))) (fun h => Or.elim h (fun h => (Or.inr (Or.inr (Or.inr (Or.inr (Or.inr (Or.inr (Or.inr (Or.inr (Or.inr (Or.inr (Or.inr (Or.inr (Or.inr (Or.inr (Or.inr (Or.inr (Or.inr (Or.inr (Or.inr (Or.inl h))))))))))))))))))))) (fun h => Or.elim h (fun h => (Or.inr (Or.inr (Or.inr (Or.inr (Or.inr (Or.inr (Or.inr (Or.inr (Or.inr (Or.inr (Or.inr (Or.inr (Or.inr (Or.inr (Or.inr (Or.inr (Or.inr (Or.inr (Or.inr (Or.inr (Or.inr (Or.inl h))))))))))))))))))))))) (fun h => Or.elim h (fun h => (Or.inr (Or.inr (Or.inr (Or.inr (Or.inr (Or.inr (Or.inr (Or.inr (Or.inr (Or.inr (Or.inr (Or.inr (Or.inr (Or.inr (Or.inr (Or.inr (Or.inr (Or.inr (Or.inr (Or.inr (Or.inr (Or.inr (Or.inl h)))))))))))))))))))))))) (fun h => (Or.inr (Or.inr (Or.inr (Or.inr (Or.inr (Or.inr (Or.inr (Or.inr (Or.inr (Or.inr (Or.inr (Or.inr (Or.inr (Or.inr (Or.inr (Or.inr (Or.inr (Or.inr (Or.inr (Or.inr (Or.inr (Or.inr (Or.inr (Or.inl h)))))))))))))))))))))))))))))))))))))))))))))
    refine ⟨⟨by omega, by omega⟩, ?_⟩
    refine ⟨fun c27 => ?_, fun c27 => ?_⟩
    · exact k_M_text_b69 I_69 F_71 ⟨by omega, by omega⟩ ⟨by omega, by omega⟩ (by first | assumption | (intro hv; exfalso; omega)) (by first | assumption | (intro hv; exfalso; omega)) (by omega) hQ
    · have m_75 : 0 ≤ (g22 214 31) ∧ (g22 214 31) ≤ 3 := I_69.1 214 31
      intro g25 e_72
      have I_73 : zk_I g25 := by rw [e_72]; exact zk_upd (L := 0) (H := 3) rfl rfl I_69 ⟨by omega, by omega⟩
      have F_74 : zk_fr fr_M_text g g25 := by rw [e_72]; exact zk_fu F_71 (Or.inr (Or.inr (Or.inr (Or.inr (Or.inr (Or.inr (Or.inr (Or.inr (Or.inr (Or.inr (Or.inr (Or.inr (Or.inr (Or.inr (Or.inr (Or.inr (Or.inr (Or.inr (Or.inr (Or.inr (Or.inr (Or.inr (Or.inr (Or.inr (Or.inl ⟨rfl, rfl⟩)))))))))))))))))))))))))
      have m_79 : 0 ≤ (g25 214 32) ∧ (g25 214 32) ≤ 400 := I_73.1 214 32
      have m_80 : g25 214 32 = g22 214 32 := by rw [e_72]; exact zi_u_ni (by decide)
      have m_81 : 0 ≤ (g22 214 32) ∧ (g22 214 32) ≤ 400 := I_69.1 214 32
      intro g26 e_76
      have I_77 : zk_I g26 := by rw [e_76]; exact zk_upd (L := (-1)) (H := 400) rfl rfl I_73 ⟨by omega, by omega⟩
      have F_78 : zk_fr fr_M_text g g26 := by rw [e_76]; exact zk_fu F_74 (Or.inr (Or.inr (Or.inr (Or.inr (Or.inr (Or.inr (Or.inr (Or.inr (Or.inr (Or.inr (Or.inr (Or.inr (Or.inr (Or.inr (Or.inr (Or.inr (Or.inr (Or.inr (Or.inr (Or.inr (Or.inr (Or.inr (Or.inr (Or.inr (Or.inr (Or.inl ⟨rfl, rfl⟩))))))))))))))))))))))))))
      exact k_M_text_b69 I_77 F_78 ⟨by omega, by omega⟩ ⟨by omega, by omega⟩ (by first | assumption | (intro hv; exfalso; omega)) (by first | assumption | (intro hv; exfalso; omega)) (by omega) hQ
-- SpoutNews.fault(I)I
set_option maxRecDepth 100000 in
set_option maxHeartbeats 4000000 in
theorem k_S_fault {l1 : Int} {g : zi_M} {Q : Int → zi_M → Prop} (I : zk_I g) (p1 : (-2147483648) ≤ l1 ∧ l1 ≤ 2147483647) (hQ : ∀ v : Int, ((l1 = 0) → v = g 191 5) → ((l1 = 1) → v = g 191 6) → (¬ l1 = 0 → ¬ l1 = 1 → v = (-1)) → Q v g) : w_S_fault l1 g Q := by
  unfold w_S_fault
  refine ⟨⟨by omega, by omega⟩, ?_⟩
  refine ⟨fun c2_0 c2_1 => ?_, fun c2 => ?_, fun c2 => ?_⟩
  · have m_1 : 0 ≤ (g 191 5) ∧ (g 191 5) ≤ 3 := I.1 191 5
    have m_2 : (-1) ≤ (g 191 6) ∧ (g 191 6) ≤ 400 := I.1 191 6
    exact hQ _ (by intros; omega) (by intros; omega) (by intros; omega)
  · have m_3 : 0 ≤ (g 191 5) ∧ (g 191 5) ≤ 3 := I.1 191 5
    have m_4 : (-1) ≤ (g 191 6) ∧ (g 191 6) ≤ 400 := I.1 191 6
    exact hQ _ (by intros; omega) (by intros; omega) (by intros; omega)
  · have m_5 : (-1) ≤ (g 191 6) ∧ (g 191 6) ≤ 400 := I.1 191 6
    have m_6 : 0 ≤ (g 191 5) ∧ (g 191 5) ≤ 3 := I.1 191 5
    exact hQ _ (by intros; omega) (by intros; omega) (by intros; omega)
-- SpoutNewsModel.fault(I)I
noncomputable def fr_M_fault (a : Nat) (i : Int) : Prop := (a = 214 ∧ i = 0)
set_option maxRecDepth 100000 in
set_option maxHeartbeats 4000000 in
theorem k_M_fault {l1 : Int} {g : zi_M} {Q : Int → zi_M → Prop} (I : zk_I g) (p1 : (-2147483648) ≤ l1 ∧ l1 ≤ 2147483647) (hQ : ∀ (v : Int) (g' : zi_M), zk_I g' → zk_fr fr_M_fault g g' → ((-1) ≤ v ∧ v ≤ 400) → Q v g') : w_M_fault l1 g Q := by
  unfold w_M_fault
  intro g1 e_1
  have I_2 : zk_I g1 := by rw [e_1]; exact zk_upd (L := (-2147483648)) (H := 2147483647) rfl rfl I ⟨by omega, by omega⟩
  have F_3 : zk_fr fr_M_fault g g1 := by rw [e_1]; exact zk_fu (zk_f0 _) ⟨rfl, rfl⟩
  refine ⟨⟨by omega, by omega⟩, ?_⟩
  refine ⟨fun c4 => ?_, fun c4 => ?_⟩
  · refine ⟨fun c3 => ?_, fun c3 => ?_⟩
    · exact hQ _ _ I_2 F_3 ⟨by omega, by omega⟩
    · have m_4 : (-1) ≤ (g1 214 34) ∧ (g1 214 34) ≤ 400 := I_2.1 214 34
      have m_5 : g1 214 34 = g 214 34 := by rw [e_1]; exact zi_u_ni (by decide)
      have m_6 : (-1) ≤ (g 214 34) ∧ (g 214 34) ≤ 400 := I.1 214 34
      exact hQ _ _ I_2 F_3 ⟨by omega, by omega⟩
  · have m_7 : 0 ≤ (g1 214 33) ∧ (g1 214 33) ≤ 3 := I_2.1 214 33
    have m_8 : g1 214 33 = g 214 33 := by rw [e_1]; exact zi_u_ni (by decide)
    have m_9 : 0 ≤ (g 214 33) ∧ (g 214 33) ≤ 3 := I.1 214 33
    exact hQ _ _ I_2 F_3 ⟨by omega, by omega⟩
-- SpoutNews.of(II)I
noncomputable def fr_S_of (a : Nat) (i : Int) : Prop := a = 27 ∨ a = 28
set_option maxRecDepth 100000 in
set_option maxHeartbeats 4000000 in
theorem k_S_of_b92 {l1 : Int} {l2 : Int} {Q : Int → zi_M → Prop} {g : zi_M} {g0 : zi_M} (I : zk_I g) (F : zk_fr fr_S_of g0 g) (p1 : 0 ≤ l1 ∧ l1 ≤ 9) (p2 : (-2147483648) ≤ l2 ∧ l2 ≤ 2147483647) (hQ : ∀ (v : Int) (g' : zi_M), zk_I g' → zk_fr fr_S_of g0 g' → ((-2) ≤ v ∧ v ≤ 1000) → Q v g') : w_S_of_b92 l1 l2 g Q := by
  unfold w_S_of_b92
  refine ⟨⟨by omega, by omega⟩, ?_⟩
  refine ⟨fun c7 => ?_, fun c7 => ?_, fun c7 => ?_, fun c7 => ?_, fun c7 => ?_, fun c7 => ?_, fun c7 => ?_, fun c7 => ?_, fun c7 => ?_, fun c7 => ?_⟩
  · exact hQ _ _ I F ⟨by omega, by omega⟩
  · refine ⟨⟨by omega, by omega⟩, ?_⟩
    have m_5 : 0 ≤ (g 3 l1) ∧ (g 3 l1) ≤ 5 := I.1 3 l1
    exact hQ _ _ I F ⟨by omega, by omega⟩
  · refine ⟨⟨by omega, by omega⟩, ?_⟩
    have m_6 : 0 ≤ (g 4 l1) ∧ (g 4 l1) ≤ 3 := I.1 4 l1
    exact hQ _ _ I F ⟨by omega, by omega⟩
  · refine ⟨⟨by omega, by omega⟩, ?_⟩
    have m_7 : 0 ≤ (g 5 l1) ∧ (g 5 l1) ≤ 99 := I.1 5 l1
    exact hQ _ _ I F ⟨by omega, by omega⟩
  · refine ⟨⟨by omega, by omega⟩, ?_⟩
    have m_8 : 0 ≤ (g 6 l1) ∧ (g 6 l1) ≤ 2 := I.1 6 l1
    exact hQ _ _ I F ⟨by omega, by omega⟩
  · refine ⟨⟨by omega, by omega⟩, ?_⟩
    have m_9 : 0 ≤ (g 8 l1) ∧ (g 8 l1) ≤ 20 := I.1 8 l1
    exact hQ _ _ I F ⟨by omega, by omega⟩
  · refine ⟨⟨by omega, by omega⟩, ?_⟩
    have m_10 : 0 ≤ (g 7 l1) ∧ (g 7 l1) ≤ 999 := I.1 7 l1
    exact hQ _ _ I F ⟨by omega, by omega⟩
  · have m_14 : (-1) ≤ (g 29 (l1)) ∧ (g 29 (l1)) ≤ 9 := I.1 29 (l1)
    refine k_Texts_gutterOf I ⟨by omega, by omega⟩ (fun v14 b_11 b_12 b_13 => ?_)
    exact hQ _ _ I F ⟨by omega, by omega⟩
  · refine k_Law_tells rfl I ⟨by omega, by omega⟩ ⟨by omega, by omega⟩ ⟨by omega, by omega⟩ (fun v17 g18 I_16 F_17 b_15 => ?_)
    have F_18 : zk_fr fr_S_of g0 g18 := zk_ft F F_17 (fun a i => (fun h => Or.elim h (fun h => (Or.inl h)) (fun h => (Or.inr h))))
    exact hQ _ _ I_16 F_18 ⟨by omega, by omega⟩
  · refine k_Law_tells rfl I ⟨by omega, by omega⟩ ⟨by omega, by omega⟩ ⟨by omega, by omega⟩ (fun v20 g21 I_20 F_21 b_19 => ?_)
    have F_22 : zk_fr fr_S_of g0 g21 := zk_ft F F_21 (fun a i => (fun h => Or.elim h (fun h => (Or.inl h)) (fun h => (Or.inr h))))
    exact hQ _ _ I_20 F_22 ⟨by omega, by omega⟩
set_option maxRecDepth 100000 in
set_option maxHeartbeats 4000000 in
theorem k_S_of_b59 {l1 : Int} {l2 : Int} {Q : Int → zi_M → Prop} {g : zi_M} {g0 : zi_M} (I : zk_I g) (F : zk_fr fr_S_of g0 g) (p1 : 0 ≤ l1 ∧ l1 ≤ 9) (p2 : (-2147483648) ≤ l2 ∧ l2 ≤ 2147483647) (hQ : ∀ (v : Int) (g' : zi_M), zk_I g' → zk_fr fr_S_of g0 g' → ((-2) ≤ v ∧ v ≤ 1000) → Q v g') : w_S_of_b59 l1 l2 g Q := by
  unfold w_S_of_b59
  refine ⟨⟨by omega, by omega⟩, ?_⟩
  refine ⟨fun c27 => ?_, fun c27 => ?_⟩
  · exact k_S_of_b92 I F ⟨by omega, by omega⟩ ⟨by omega, by omega⟩ hQ
  · refine ⟨fun c26 => ?_, fun c26 => ?_⟩
    · exact k_S_of_b92 I F ⟨by omega, by omega⟩ ⟨by omega, by omega⟩ hQ
    · refine k_Law_tells rfl I ⟨by omega, by omega⟩ ⟨by omega, by omega⟩ ⟨by omega, by omega⟩ (fun v23 g24 I_24 F_25 b_23 => ?_)
      have F_26 : zk_fr fr_S_of g0 g24 := zk_ft F F_25 (fun a i => (fun h => Or.elim h (fun h => (Or.inl h)) (fun h => (Or.inr h))))
      exact hQ _ _ I_24 F_26 ⟨by omega, by omega⟩
set_option maxRecDepth 100000 in
set_option maxHeartbeats 4000000 in
theorem k_S_of {l1 : Int} {l2 : Int} {g : zi_M} {Q : Int → zi_M → Prop} (I : zk_I g) (p1 : (-2147483648) ≤ l1 ∧ l1 ≤ 2147483647) (p2 : (-2147483648) ≤ l2 ∧ l2 ≤ 2147483647) (hQ : ∀ (v : Int) (g' : zi_M), zk_I g' → zk_fr fr_S_of g g' → ((-2) ≤ v ∧ v ≤ 1000) → Q v g') : w_S_of l1 l2 g Q := by
  unfold w_S_of
  have m_4 : 0 ≤ (g 2 8) ∧ (g 2 8) ≤ 10 := I.1 2 8
  refine k_World_isSpout rfl I ⟨by omega, by omega⟩ (fun v1 b_1 b_2 b_3 => ?_)
  try simp only [Nat.reduceAdd] at b_1 b_2 b_3
  refine ⟨fun c37 => ?_, fun c37 => ?_⟩
  · refine ⟨⟨by omega, by omega⟩, ?_⟩
    refine ⟨fun c36 => ?_, fun c36 => ?_⟩
    · exact k_S_of_b59 I (zk_f0 _) ⟨by omega, by omega⟩ ⟨by omega, by omega⟩ hQ
    · refine ⟨fun c35 => ?_, fun c35 => ?_⟩
      · exact k_S_of_b59 I (zk_f0 _) ⟨by omega, by omega⟩ ⟨by omega, by omega⟩ hQ
      · refine ⟨⟨by omega, by omega⟩, ?_⟩
        have m_27 : 0 ≤ (g 8 l1) ∧ (g 8 l1) ≤ 20 := I.1 8 l1
        refine ⟨⟨by omega, by omega⟩, ⟨by omega, by omega⟩, ?_⟩
        refine ⟨fun c34 => ?_, fun c34 => ?_⟩
        · exact hQ _ _ I (zk_f0 _) ⟨by omega, by omega⟩
        · have m_33 : 0 ≤ (g 9 ((l1 * 20) + (l2 - 20))) ∧ (g 9 ((l1 * 20) + (l2 - 20))) ≤ 15 := I.1 9 ((l1 * 20) + (l2 - 20))
          refine k_World_wordAt rfl I ⟨by omega, by omega⟩ ⟨by omega, by omega⟩ (fun v31 b_28 b_29 b_30 b_31 b_32 => ?_)
          try simp only [Nat.reduceAdd] at b_28 b_29 b_30 b_31 b_32
          exact hQ _ _ I (zk_f0 _) ⟨by omega, by omega⟩
  · exact hQ _ _ I (zk_f0 _) ⟨by omega, by omega⟩
-- SpoutNewsModel.of(II)I
noncomputable def fr_M_of (a : Nat) (i : Int) : Prop := a = 235 ∨ a = 236 ∨ (a = 214 ∧ i = 0)
set_option maxRecDepth 100000 in
set_option maxHeartbeats 4000000 in
theorem k_M_of {l1 : Int} {l2 : Int} {g : zi_M} {Q : Int → zi_M → Prop} (I : zk_I g) (p1 : (-2147483648) ≤ l1 ∧ l1 ≤ 2147483647) (p2 : (-2147483648) ≤ l2 ∧ l2 ≤ 2147483647) (hQ : ∀ (v : Int) (g' : zi_M), zk_I g' → zk_fr fr_M_of g g' → ((-2147483648) ≤ v ∧ v ≤ 2147483647) → Q v g') : w_M_of l1 l2 g Q := by
  unfold w_M_of
  intro g1 e_1
  have I_2 : zk_I g1 := by rw [e_1]; exact zk_upd (L := (-2147483648)) (H := 2147483647) rfl rfl I ⟨by omega, by omega⟩
  have F_3 : zk_fr fr_M_of g g1 := by rw [e_1]; exact zk_fu (zk_f0 _) (Or.inr (Or.inr ⟨rfl, rfl⟩))
  have m_7 : 0 ≤ (g1 214 6) ∧ (g1 214 6) ≤ 10 := I_2.1 214 6
  have m_8 : g1 214 6 = g 214 6 := by rw [e_1]; exact zi_u_ni (by decide)
  have m_9 : 0 ≤ (g 214 6) ∧ (g 214 6) ≤ 10 := I.1 214 6
  refine k_M_isSpout I_2 ⟨by omega, by omega⟩ (fun v2 b_4 b_5 b_6 => ?_)
  refine ⟨fun c44 => ?_, fun c44 => ?_⟩
  · refine ⟨⟨by omega, by omega⟩, ?_⟩
    have m_10 := zk_now26 I_2 (i := (26 + l1)) (by omega)
    have m_11 : g1 215 (26 + l1) = g 215 (26 + l1) := by rw [e_1]; exact zi_u_ne (by decide)
    have m_12 := zk_now26 I (i := (26 + l1)) (by omega)
    refine k_M_isIn I_2 ⟨by omega, by omega⟩ ⟨by omega, by omega⟩ ⟨by omega, by omega⟩ (fun v6 b_13 b_14 b_15 => ?_)
    refine ⟨fun c43 => ?_, fun c43 => ?_⟩
    · refine k_M_isIn I_2 ⟨by omega, by omega⟩ ⟨by omega, by omega⟩ ⟨by omega, by omega⟩ (fun v9 b_16 b_17 b_18 => ?_)
      refine ⟨fun c39 => ?_, fun c39 => ?_⟩
      · refine ⟨⟨by omega, by omega⟩, ?_⟩
        refine ⟨fun c35 => ?_, fun c35 => ?_⟩
        · refine ⟨fun c33 => ?_, fun c33 => ?_⟩
          · refine ⟨fun c31 => ?_, fun c31 => ?_⟩
            · refine ⟨fun c29 => ?_, fun c29 => ?_⟩
              · refine ⟨fun c27 => ?_, fun c27 => ?_⟩
                · refine ⟨fun c26 => ?_, fun c26 => ?_⟩
                  · refine ⟨fun c24 => ?_, fun c24 => ?_⟩
                    · refine ⟨fun c20 => ?_, fun c20 => ?_⟩
                      · refine ⟨fun c16 => ?_, fun c16 => ?_⟩
                        · exact hQ _ _ I_2 F_3 ⟨by omega, by omega⟩
                        · refine k_M_jetOf I_2 ⟨by omega, by omega⟩ (fun v13 g14 I_20 F_21 b_19 => ?_)
                          have F_22 : zk_fr fr_M_of g g14 := zk_ft F_3 F_21 (fun a i => (fun h => Or.elim h (fun h => (Or.inl h)) (fun h => (Or.inr (Or.inl h)))))
                          exact hQ _ _ I_20 F_22 ⟨by omega, by omega⟩
                      · refine k_M_hearsOf I_2 ⟨by omega, by omega⟩ (fun v17 g18 I_24 F_25 b_23 => ?_)
                        have F_26 : zk_fr fr_M_of g g18 := zk_ft F_3 F_25 (fun a i => (fun h => Or.elim h (fun h => (Or.inl h)) (fun h => (Or.inr (Or.inl h)))))
                        exact hQ _ _ I_24 F_26 ⟨by omega, by omega⟩
                    · have m_28 : 0 ≤ (g1 232 (l1)) ∧ (g1 232 (l1)) ≤ 10 := I_2.1 232 (l1)
                      have m_29 : g1 232 (l1) = g 232 (l1) := by rw [e_1]; exact zi_u_ne (by decide)
                      have m_30 : 0 ≤ (g 232 (l1)) ∧ (g 232 (l1)) ≤ 10 := I.1 232 (l1)
                      refine k_M_into I_2 ⟨by omega, by omega⟩ (fun v21 b_27 => ?_)
                      exact hQ _ _ I_2 F_3 ⟨by omega, by omega⟩
                  · refine ⟨⟨by omega, by omega⟩, ?_⟩
                    have m_31 := zk_now16 I_2 (i := (16 + l1)) (by omega)
                    have m_32 : g1 215 (16 + l1) = g 215 (16 + l1) := by rw [e_1]; exact zi_u_ne (by decide)
                    have m_33 := zk_now16 I (i := (16 + l1)) (by omega)
                    exact hQ _ _ I_2 F_3 ⟨by omega, by omega⟩
                · exact hQ _ _ I_2 F_3 ⟨by omega, by omega⟩
              · refine ⟨⟨by omega, by omega⟩, ?_⟩
                have m_34 := zk_now6 I_2 (i := (6 + l1)) (by omega)
                have m_35 : g1 215 (6 + l1) = g 215 (6 + l1) := by rw [e_1]; exact zi_u_ne (by decide)
                have m_36 := zk_now6 I (i := (6 + l1)) (by omega)
                exact hQ _ _ I_2 F_3 ⟨by omega, by omega⟩
            · refine ⟨⟨by omega, by omega⟩, ?_⟩
              have m_37 : 0 ≤ (g1 220 l1) ∧ (g1 220 l1) ≤ 99 := I_2.1 220 l1
              have m_38 : g1 220 l1 = g 220 l1 := by rw [e_1]; exact zi_u_ne (by decide)
              have m_39 : 0 ≤ (g 220 l1) ∧ (g 220 l1) ≤ 99 := I.1 220 l1
              exact hQ _ _ I_2 F_3 ⟨by omega, by omega⟩
          · refine ⟨⟨by omega, by omega⟩, ?_⟩
            have m_40 : 0 ≤ (g1 219 l1) ∧ (g1 219 l1) ≤ 3 := I_2.1 219 l1
            have m_41 : g1 219 l1 = g 219 l1 := by rw [e_1]; exact zi_u_ne (by decide)
            have m_42 : 0 ≤ (g 219 l1) ∧ (g 219 l1) ≤ 3 := I.1 219 l1
            exact hQ _ _ I_2 F_3 ⟨by omega, by omega⟩
        · refine ⟨⟨by omega, by omega⟩, ?_⟩
          have m_43 : 0 ≤ (g1 218 l1) ∧ (g1 218 l1) ≤ 5 := I_2.1 218 l1
          have m_44 : g1 218 l1 = g 218 l1 := by rw [e_1]; exact zi_u_ne (by decide)
          have m_45 : 0 ≤ (g 218 l1) ∧ (g 218 l1) ≤ 5 := I.1 218 l1
          exact hQ _ _ I_2 F_3 ⟨by omega, by omega⟩
      · refine k_M_slipOf I_2 ⟨by omega, by omega⟩ ⟨by omega, by omega⟩ (fun v36 g37 I_47 F_48 b_46 => ?_)
        have F_49 : zk_fr fr_M_of g g37 := zk_ft F_3 F_48 (fun a i => (fun h => Or.elim h (fun h => (Or.inl h)) (fun h => (Or.inr (Or.inl h)))))
        exact hQ _ _ I_47 F_49 ⟨by omega, by omega⟩
    · have m_51 := zk_now36 I_2 (i := ((36 + (20 * l1)) + (l2 - 20))) (by omega)
      have m_52 : g1 215 ((36 + (20 * l1)) + (l2 - 20)) = g 215 ((36 + (20 * l1)) + (l2 - 20)) := by rw [e_1]; exact zi_u_ne (by decide)
      have m_53 := zk_now36 I (i := ((36 + (20 * l1)) + (l2 - 20))) (by omega)
      refine k_M_heardAt I_2 ⟨by omega, by omega⟩ ⟨by omega, by omega⟩ (fun v40 b_50 => ?_)
      exact hQ _ _ I_2 F_3 ⟨by omega, by omega⟩
  · exact hQ _ _ I_2 F_3 ⟨by omega, by omega⟩
