-- by program (wip/gen/mkz.py)
-- SpoutNewsModel.rains()I
set_option maxRecDepth 100000 in
set_option maxHeartbeats 4000000 in
theorem k_M_rains_l56 {l2 : Int} {l3 : Int} {K73 : zi_M → Prop} {Q : Int → zi_M → Prop} {g0 : zi_M} (q2 : 0 ≤ l2 ∧ l2 ≤ 9) (q3 : 0 ≤ l3 ∧ l3 ≤ 9) (hK73 : ∀ (g : zi_M), zk_I g → zk_fr fr_M_rains g0 g → (g 214 43 ≤ 9 * l2 + 9) → (zRp (l2 + 1) g0 g) → (l2 < g0 214 6) → K73 g) (hQ : ∀ (v : Int) (g' : zi_M), zk_I g' → zk_fr fr_M_rains g0 g' → ((-2147483648) ≤ v ∧ v ≤ 2147483647) → (zRY g0 g') → (v = zi_w (g' 215 4 - g0 215 4)) → Q v g') : ∀ (n : Nat) {l4 : Int} {g : zi_M}, zk_I g → zk_fr fr_M_rains g0 g → (0 ≤ l4 ∧ l4 ≤ 9) → (g 214 43 ≤ 9 * l2 + l4) → (l3 - l4 ≤ g 215 (26 + l2)) → (l4 ≤ l3) → (l2 < g0 214 6) → (zRj l2 l3 g0) → (zRn l2 l4 g0 g) → 9 - l4 < (n : Int) → w_M_rains_l56 l2 l3 K73 Q n l4 g
  | 0, l4, g, I, F, b0, b1, b2, b3, b4, b5, b6, hm => by exfalso; omega
  | n + 1, l4, g, I, F, b0, b1, b2, b3, b4, b5, b6, hm => by
    unfold w_M_rains_l56
    refine ⟨⟨by omega, by omega⟩, ⟨by omega, by omega⟩, ?_⟩
    refine ⟨fun c12 => ?_, fun c12 => ?_⟩
    · have m_11 : 0 ≤ (g 214 43) ∧ (g 214 43) ≤ 90 := I.1 214 43
      exact hK73 _ I F (by omega) (by exact zRn_x (by assumption) (by assumption) (by omega) (by omega)) (by assumption)
    · have m_12 := zk_now26 I (i := (26 + l2)) (by omega)
      have m_13 : 0 ≤ (g 214 43) ∧ (g 214 43) ≤ 90 := I.1 214 43
      refine k_M_saysFirst I ⟨by omega, by omega⟩ (by omega) (by omega) (fun g10 I_17 F_18 b_14 b_15 b_16 => ?_)
      have F_19 : zk_fr fr_M_rains g0 g10 := zk_ft F F_18 (fun a i => (fun h => Or.elim h (fun h => (Or.inl h)) (fun h => Or.elim h (fun h => (Or.inr (Or.inl h))) (fun h => Or.elim h (fun h => (Or.inr (Or.inr (Or.inl h)))) (fun h => Or.elim h (fun h => (Or.inr (Or.inr (Or.inr (Or.inl h))))) (fun h => Or.elim h (fun h => (Or.inr (Or.inr (Or.inr (Or.inr (Or.inl h)))))) (fun h => Or.elim h (fun h => (Or.inr (Or.inr (Or.inr (Or.inr (Or.inr (Or.inl h))))))) (fun h => Or.elim h (fun h => (Or.inr (Or.inr (Or.inr (Or.inr (Or.inr (Or.inr (Or.inl h)))))))) (fun h => Or.elim h (fun h => (Or.inr (Or.inr (Or.inr (Or.inr (Or.inr (Or.inr (Or.inr (Or.inr (Or.inl h)))))))))) (fun h => Or.elim h (fun h => (Or.inr (Or.inr (Or.inr (Or.inr (Or.inr (Or.inr (Or.inr (Or.inr (Or.inr (Or.inl h))))))))))) (fun h => Or.elim h (fun h => (Or.inr (Or.inr (Or.inr (Or.inr (Or.inr (Or.inr (Or.inr (Or.inr (Or.inr (Or.inr (Or.inl h)))))))))))) (fun h => Or.elim h (fun h => (Or.inr (Or.inr (Or.inr (Or.inr (Or.inr (Or.inr (Or.inr (Or.inr (Or.inr (Or.inr (Or.inr (Or.inl h))))))))))))) (fun h => Or.elim h (fun h => (Or.inr (Or.inr (Or.inr (Or.inr (Or.inr (Or.inr (Or.inr (Or.inr (Or.inr (Or.inr (Or.inr (Or.inr (Or.inl h)))))))))))))) (fun h => (Or.inr (Or.inr (Or.inr (Or.inr (Or.inr (Or.inr (Or.inr (Or.inr (Or.inr (Or.inr (Or.inr (Or.inr (Or.inr h)))))))))))))))))))))))))))
      have m_20 : 0 ≤ (g10 214 43) ∧ (g10 214 43) ≤ 90 := I_17.1 214 43
      have m_21 := zk_now26 I_17 (i := (26 + l2)) (by omega)
      exact k_M_rains_l56 q2 q3 hK73 hQ n I_17 F_19 ⟨by omega, by omega⟩ (by omega) (by omega) (by omega) (by first | assumption | (have hf := (zMfr_r F).2.2.1; omega)) (by first | assumption | exact zRj_0 (by assumption) ⟨by omega, by omega⟩ ⟨by assumption, by assumption⟩ (by assumption) | exact zRj_1 (by assumption) ⟨by omega, by omega⟩ (zMfr_r F) ⟨by assumption, by assumption⟩ (by assumption) (by assumption) (by omega)) (by first | exact zRn_0 (by assumption) | exact zRn_j (by assumption) (by assumption) | exact zRn_s (by assumption) (zMfr_r F) (by omega) (by assumption)) (by omega)
set_option maxRecDepth 100000 in
set_option maxHeartbeats 4000000 in
theorem k_M_rains_l14 {K79 : zi_M → Prop} {Q : Int → zi_M → Prop} {g0 : zi_M} (hK79 : ∀ (g : zi_M), zk_I g → zk_fr fr_M_rains g0 g → (zRQ g0 g) → K79 g) (hQ : ∀ (v : Int) (g' : zi_M), zk_I g' → zk_fr fr_M_rains g0 g' → ((-2147483648) ≤ v ∧ v ≤ 2147483647) → (zRY g0 g') → (v = zi_w (g' 215 4 - g0 215 4)) → Q v g') : ∀ (n : Nat) {l2 : Int} {g : zi_M}, zk_I g → zk_fr fr_M_rains g0 g → (0 ≤ l2 ∧ l2 ≤ 10) → (g 214 43 ≤ 9 * l2) → (l2 ≤ g0 214 6) → (zRp l2 g0 g) → 10 - l2 < (n : Int) → w_M_rains_l14 K79 Q n l2 g
  | 0, l2, g, I, F, b0, b1, b2, b3, hm => by exfalso; omega
  | n + 1, l2, g, I, F, b0, b1, b2, b3, hm => by
    unfold w_M_rains_l14
    have m_4 : 0 ≤ (g 214 6) ∧ (g 214 6) ≤ 10 := I.1 214 6
    refine ⟨⟨by omega, by omega⟩, ⟨by omega, by omega⟩, ?_⟩
    refine ⟨fun c25 => ?_, fun c25 => ?_⟩
    · exact hK79 _ I F (by exact zRp_x (by assumption) (by have hf := (zMfr_r F).2.2.1; omega))
    · have m_9 := zk_now6 I (i := (6 + l2)) (by omega)
      have m_10 := zk_rng I 215 3
      refine k_M_canSay I ⟨by omega, by omega⟩ (fun v4 b_5 b_6 b_7 b_8 => ?_)
      refine ⟨fun c24 => ?_, fun c24 => ?_⟩
      · have m_28 : 0 ≤ (g 214 43) ∧ (g 214 43) ≤ 90 := I.1 214 43
        have m_29 := zk_now26 I (i := (26 + l2)) (by omega)
        refine ⟨((9 - 0 : Int).toNat + 1), k_M_rains_l56 (l2 := l2) (l3 := 0) ⟨by omega, by omega⟩ ⟨by omega, by omega⟩ (fun g13 I_22 F_23 b_24 b_25 b_26 => ?_) hQ ((9 - 0 : Int).toNat + 1) I F ⟨by omega, by omega⟩ (by omega) (by omega) (by omega) (by first | assumption | (have hf := (zMfr_r F).2.2.1; omega)) (by first | assumption | exact zRj_0 (by assumption) ⟨by omega, by omega⟩ ⟨by assumption, by assumption⟩ (by assumption) | exact zRj_1 (by assumption) ⟨by omega, by omega⟩ (zMfr_r F) ⟨by assumption, by assumption⟩ (by assumption) (by assumption) (by omega)) (by first | exact zRn_0 (by assumption) | exact zRn_j (by assumption) (by assumption) | exact zRn_s (by assumption) (zMfr_r F) (by omega) (by assumption)) (by omega)⟩
        have m_27 : 0 ≤ (g13 214 43) ∧ (g13 214 43) ≤ 90 := I_22.1 214 43
        exact k_M_rains_l14 hK79 hQ n I_22 F_23 ⟨by omega, by omega⟩ (by omega) (by first | omega | (have hf := (zMfr_r F).2.2.1; omega) | (have hz := zk_r6 I; omega)) (by first | assumption | exact zRp_0 (by assumption)) (by omega)
      · refine ⟨⟨by omega, by omega⟩, ?_⟩
        refine k_M_jetOf I ⟨by omega, by omega⟩ (fun v16 g17 I_32 F_33 b_30 b_31 => ?_)
        have F_34 : zk_fr fr_M_rains g0 g17 := zk_ft F F_33 (fun a i => (fun h => Or.elim h (fun h => (Or.inr (Or.inl h))) (fun h => (Or.inr (Or.inr (Or.inl h))))))
        have m_35 := zk_now26 I (i := (26 + l2)) (by omega)
        refine k_M_lesser I_32 ⟨by omega, by omega⟩ ⟨by omega, by omega⟩ (fun v19 b_36 b_37 => ?_)
        have m_44 : 0 ≤ (g17 214 43) ∧ (g17 214 43) ≤ 90 := I_32.1 214 43
        have m_45 : g17 214 43 = g 214 43 := F_33 _ _ (by unfold fr_M_jetOf; omega)
        have m_46 : 0 ≤ (g 214 43) ∧ (g 214 43) ≤ 90 := I.1 214 43
        have m_47 := zk_now26 I_32 (i := (26 + l2)) (by omega)
        have m_48 : g17 215 (26 + l2) = g 215 (26 + l2) := F_33 _ _ (by unfold fr_M_jetOf; omega)
        refine ⟨((9 - 0 : Int).toNat + 1), k_M_rains_l56 (l2 := l2) (l3 := v19) ⟨by omega, by omega⟩ ⟨by omega, by omega⟩ (fun g22 I_38 F_39 b_40 b_41 b_42 => ?_) hQ ((9 - 0 : Int).toNat + 1) I_32 F_34 ⟨by omega, by omega⟩ (by omega) (by omega) (by omega) (by first | assumption | (have hf := (zMfr_r F).2.2.1; omega)) (by first | assumption | exact zRj_0 (by assumption) ⟨by omega, by omega⟩ ⟨by assumption, by assumption⟩ (by assumption) | exact zRj_1 (by assumption) ⟨by omega, by omega⟩ (zMfr_r F) ⟨by assumption, by assumption⟩ (by assumption) (by assumption) (by omega)) (by first | exact zRn_0 (by assumption) | exact zRn_j (by assumption) (by assumption) | exact zRn_s (by assumption) (zMfr_r F) (by omega) (by assumption)) (by omega)⟩
        have m_43 : 0 ≤ (g22 214 43) ∧ (g22 214 43) ≤ 90 := I_38.1 214 43
        exact k_M_rains_l14 hK79 hQ n I_38 F_39 ⟨by omega, by omega⟩ (by omega) (by first | omega | (have hf := (zMfr_r F).2.2.1; omega) | (have hz := zk_r6 I; omega)) (by first | assumption | exact zRp_0 (by assumption)) (by omega)
set_option maxRecDepth 100000 in
set_option maxHeartbeats 4000000 in
theorem k_M_rains_l81 {K149 : zi_M → Prop} {Q : Int → zi_M → Prop} {g0 : zi_M} (hK149 : ∀ (g : zi_M), zk_I g → zk_fr fr_M_rains g0 g → (zRL g0 g) → K149 g) (hQ : ∀ (v : Int) (g' : zi_M), zk_I g' → zk_fr fr_M_rains g0 g' → ((-2147483648) ≤ v ∧ v ≤ 2147483647) → (zRY g0 g') → (v = zi_w (g' 215 4 - g0 215 4)) → Q v g') : ∀ (n : Nat) {l2 : Int} {g : zi_M}, zk_I g → zk_fr fr_M_rains g0 g → (0 ≤ l2 ∧ l2 ≤ 90) → (l2 ≤ g 214 43) → (zRl l2 g0 g) → 90 - l2 < (n : Int) → w_M_rains_l81 K149 Q n l2 g
  | 0, l2, g, I, F, b0, b1, b2, hm => by exfalso; omega
  | n + 1, l2, g, I, F, b0, b1, b2, hm => by
    unfold w_M_rains_l81
    have m_52 : 0 ≤ (g 214 43) ∧ (g 214 43) ≤ 90 := I.1 214 43
    refine ⟨⟨by omega, by omega⟩, ⟨by omega, by omega⟩, ?_⟩
    refine ⟨fun c40 => ?_, fun c40 => ?_⟩
    · exact hK149 _ I F (by exact zRl_x b2 (by omega))
    · refine ⟨⟨by omega, by omega⟩, ?_⟩
      have m_53 : 0 ≤ (g 237 l2) ∧ (g 237 l2) ≤ 9 := I.1 237 l2
      refine ⟨⟨by omega, by omega⟩, ?_⟩
      have m_54 := zk_now6 I (i := (6 + (g 237 l2))) (by omega)
      refine ⟨⟨by omega, by omega⟩, ?_⟩
      refine ⟨fun c39 => ?_, fun c39 => ?_⟩
      · exact k_M_rains_l81 hK149 hQ n I F ⟨by omega, by omega⟩ (by first | omega | (have hz := zk_r43 (by assumption); omega)) (by first | exact zRl_0 (by assumption) | exact zRl_a b2 (by omega) (by omega) ⟨by omega, by omega⟩ (by assumption) | exact zRl_b b2 (by omega) (by omega) (by assumption) (by assumption) (by assumption) | exact zRl_c b2 (by omega) (by omega) ⟨by omega, by omega⟩ (by assumption) (by assumption) (by assumption) (by assumption) (by assumption) (by omega) (by assumption) (zMfr_r (by assumption))) (by omega)
      · have m_55 : 0 ≤ (g 238 l2) ∧ (g 238 l2) ≤ 15 := I.1 238 l2
        refine k_M_comesTo I ⟨by omega, by omega⟩ ⟨by omega, by omega⟩ (fun v32 g33 I_58 F_59 b_56 b_57 => ?_)
        have F_60 : zk_fr fr_M_rains g0 g33 := zk_ft F F_59 (fun a i => (fun h => Or.elim h (fun h => (Or.inr (Or.inr (Or.inr (Or.inr (Or.inr (Or.inr (Or.inr (Or.inr (Or.inr (Or.inr (Or.inl h)))))))))))) (fun h => (Or.inr (Or.inr (Or.inr (Or.inr (Or.inr (Or.inr (Or.inr (Or.inr (Or.inr (Or.inr (Or.inr (Or.inl h)))))))))))))))
        refine ⟨fun c38 => ?_, fun c38 => ?_⟩
        · have m_61 : 0 ≤ (g33 214 43) ∧ (g33 214 43) ≤ 90 := I_58.1 214 43
          have m_62 : g33 214 43 = g 214 43 := F_59 _ _ (by unfold fr_M_comesTo; omega)
          exact k_M_rains_l81 hK149 hQ n I_58 F_60 ⟨by omega, by omega⟩ (by first | omega | (have hz := zk_r43 (by assumption); omega)) (by first | exact zRl_0 (by assumption) | exact zRl_a b2 (by omega) (by omega) ⟨by omega, by omega⟩ (by assumption) | exact zRl_b b2 (by omega) (by omega) (by assumption) (by assumption) (by assumption) | exact zRl_c b2 (by omega) (by omega) ⟨by omega, by omega⟩ (by assumption) (by assumption) (by assumption) (by assumption) (by assumption) (by omega) (by assumption) (zMfr_r (by assumption))) (by omega)
        · have m_63 : 0 ≤ (g33 237 l2) ∧ (g33 237 l2) ≤ 9 := I_58.1 237 l2
          have m_64 : g33 237 l2 = g 237 l2 := F_59 _ _ (by unfold fr_M_comesTo; omega)
          have m_65 : 0 ≤ (g33 238 l2) ∧ (g33 238 l2) ≤ 15 := I_58.1 238 l2
          have m_66 : g33 238 l2 = g 238 l2 := F_59 _ _ (by unfold fr_M_comesTo; omega)
          refine k_M_notes I_58 ⟨by omega, by omega⟩ ⟨by omega, by omega⟩ ⟨by omega, by omega⟩ (fun g36 I_68 F_69 b_67 => ?_)
          have F_70 : zk_fr fr_M_rains g0 g36 := zk_ft F_60 F_69 (fun a i => (fun h => Or.elim h (fun h => (Or.inl h)) (fun h => (Or.inr (Or.inr (Or.inr (Or.inr (Or.inr (Or.inr (Or.inr (Or.inr (Or.inl h))))))))))))
          have m_71 : 0 ≤ (g36 214 43) ∧ (g36 214 43) ≤ 90 := I_68.1 214 43
          have m_72 : g36 214 43 = g33 214 43 := F_69 _ _ (by unfold fr_M_notes; omega)
          have m_73 : 0 ≤ (g33 214 43) ∧ (g33 214 43) ≤ 90 := I_58.1 214 43
          have m_74 : g33 214 43 = g 214 43 := F_59 _ _ (by unfold fr_M_comesTo; omega)
          exact k_M_rains_l81 hK149 hQ n I_68 F_70 ⟨by omega, by omega⟩ (by first | omega | (have hz := zk_r43 (by assumption); omega)) (by first | exact zRl_0 (by assumption) | exact zRl_a b2 (by omega) (by omega) ⟨by omega, by omega⟩ (by assumption) | exact zRl_b b2 (by omega) (by omega) (by assumption) (by assumption) (by assumption) | exact zRl_c b2 (by omega) (by omega) ⟨by omega, by omega⟩ (by assumption) (by assumption) (by assumption) (by assumption) (by assumption) (by omega) (by assumption) (zMfr_r (by assumption))) (by omega)
set_option maxRecDepth 100000 in
set_option maxHeartbeats 4000000 in
theorem k_M_rains_l151 {K175 : zi_M → Prop} {Q : Int → zi_M → Prop} {g0 : zi_M} (hK175 : ∀ (g : zi_M), zk_I g → zk_fr fr_M_rains g0 g → (zRY g0 g) → K175 g) (hQ : ∀ (v : Int) (g' : zi_M), zk_I g' → zk_fr fr_M_rains g0 g' → ((-2147483648) ≤ v ∧ v ≤ 2147483647) → (zRY g0 g') → (v = zi_w (g' 215 4 - g0 215 4)) → Q v g') : ∀ (n : Nat) {l2 : Int} {g : zi_M}, zk_I g → zk_fr fr_M_rains g0 g → (0 ≤ l2 ∧ l2 ≤ 10) → (l2 ≤ g0 214 6) → (zRZ l2 g0 g) → 10 - l2 < (n : Int) → w_M_rains_l151 K175 Q n l2 g
  | 0, l2, g, I, F, b0, b1, b2, hm => by exfalso; omega
  | n + 1, l2, g, I, F, b0, b1, b2, hm => by
    unfold w_M_rains_l151
    have m_78 : 0 ≤ (g 214 6) ∧ (g 214 6) ≤ 10 := I.1 214 6
    refine ⟨⟨by omega, by omega⟩, ⟨by omega, by omega⟩, ?_⟩
    refine ⟨fun c46 => ?_, fun c46 => ?_⟩
    · exact hK175 _ I F (by exact zRZ_x (by assumption) (by have hf := (zMfr_r F).2.2.1; omega))
    · refine ⟨⟨by omega, by omega⟩, ?_⟩
      intro g45 e_79
      have I_80 : zk_I g45 := by rw [e_79]; exact zk_upd (zk_nl16 (i := 16 + l2) (by omega)).1 (zk_nl16 (i := 16 + l2) (by omega)).2 I ⟨by omega, by omega⟩
      have F_81 : zk_fr fr_M_rains g0 g45 := by rw [e_79]; exact zk_fu F (Or.inr (Or.inr (Or.inr (Or.inr (Or.inr (Or.inr (Or.inr (Or.inl ⟨rfl, by omega, by omega⟩))))))))
      exact k_M_rains_l151 hK175 hQ n I_80 F_81 ⟨by omega, by omega⟩ (by first | omega | (have hf := (zMfr_r F).2.2.1; omega) | (have hz := zk_r6 I; omega)) (by first | exact zRZ_0 (by assumption) | exact zRZ_s (by assumption) (by omega) (by omega) (by assumption)) (by omega)
set_option maxRecDepth 100000 in
set_option maxHeartbeats 4000000 in
theorem k_M_rains {g : zi_M} {Q : Int → zi_M → Prop} (I : zk_I g) (hQ : ∀ (v : Int) (g' : zi_M), zk_I g' → zk_fr fr_M_rains g g' → ((-2147483648) ≤ v ∧ v ≤ 2147483647) → (zRY g g') → (v = zi_w (g' 215 4 - g 215 4)) → Q v g') : w_M_rains g Q := by
  unfold w_M_rains
  intro g1 e_1
  have I_2 : zk_I g1 := by rw [e_1]; exact zk_upd (L := 0) (H := 90) rfl rfl I ⟨by omega, by omega⟩
  have F_3 : zk_fr fr_M_rains g g1 := by rw [e_1]; exact zk_fu (zk_f0 _) (Or.inr (Or.inr (Or.inr (Or.inr (Or.inr (Or.inl ⟨rfl, rfl⟩))))))
  have m_89 : 0 ≤ (g1 214 43) ∧ (g1 214 43) ≤ 90 := I_2.1 214 43
  have m_90 : g1 214 43 = 0 := by rw [e_1]; exact zi_u_eq
  refine ⟨((10 - 0 : Int).toNat + 1), k_M_rains_l14 (fun g26 I_49 F_50 b_51 => ?_) hQ ((10 - 0 : Int).toNat + 1) I_2 F_3 ⟨by omega, by omega⟩ (by omega) (by first | omega | (have hf := (zMfr_r F).2.2.1; omega) | (have hz := zk_r6 I; omega)) (by first | assumption | exact zRp_0 (by assumption)) (by omega)⟩
  have m_88 : 0 ≤ (g26 214 43) ∧ (g26 214 43) ≤ 90 := I_49.1 214 43
  refine ⟨((90 - 0 : Int).toNat + 1), k_M_rains_l81 (fun g41 I_75 F_76 b_77 => ?_) hQ ((90 - 0 : Int).toNat + 1) I_49 F_50 ⟨by omega, by omega⟩ (by first | omega | (have hz := zk_r43 (by assumption); omega)) (by first | exact zRl_0 (by assumption) | exact zRl_a b2 (by omega) (by omega) ⟨by omega, by omega⟩ (by assumption) | exact zRl_b b2 (by omega) (by omega) (by assumption) (by assumption) (by assumption) | exact zRl_c b2 (by omega) (by omega) ⟨by omega, by omega⟩ (by assumption) (by assumption) (by assumption) (by assumption) (by assumption) (by omega) (by assumption) (zMfr_r (by assumption))) (by omega)⟩
  refine ⟨((10 - 0 : Int).toNat + 1), k_M_rains_l151 (fun g47 I_82 F_83 b_84 => ?_) hQ ((10 - 0 : Int).toNat + 1) I_75 F_76 ⟨by omega, by omega⟩ (by first | omega | (have hf := (zMfr_r F).2.2.1; omega) | (have hz := zk_r6 I; omega)) (by first | exact zRZ_0 (by assumption) | exact zRZ_s (by assumption) (by omega) (by omega) (by assumption)) (by omega)⟩
  have m_85 := zk_rng I_82 215 4
  have m_86 := zk_rng I 215 4
  have m_87 := zi_r_w ((g47 215 4) - (g 215 4))
  exact hQ _ _ I_82 F_83 ⟨by omega, by omega⟩ (by assumption) (by rfl)
-- SpoutNewsModel.goesBy()I
set_option maxRecDepth 100000 in
set_option maxHeartbeats 4000000 in
theorem k_M_goesBy_l2 {K67 : zi_M → Prop} {Q : Int → zi_M → Prop} {g0 : zi_M} (hK67 : ∀ (g : zi_M), zk_I g → zk_fr fr_M_goesBy g0 g → (zQE g0 g) → (g 215 4 = g0 215 4) → K67 g) (hQ : ∀ (v : Int) (g' : zi_M), zk_I g' → zk_fr fr_M_goesBy g0 g' → ((-2147483648) ≤ v ∧ v ≤ 2147483647) → (zQD g0 g') → (v = zi_w (g' 215 4 - g0 215 4)) → Q v g') : ∀ (n : Nat) {l1 : Int} {g : zi_M}, zk_I g → zk_fr fr_M_goesBy g0 g → (0 ≤ l1 ∧ l1 ≤ 16) → (l1 ≤ g0 214 39) → (zk_I g0) → (zQp l1 g0 g) → (g 215 4 = g0 215 4) → 16 - l1 < (n : Int) → w_M_goesBy_l2 K67 Q n l1 g
  | 0, l1, g, I, F, b0, b1, b2, b3, b4, hm => by exfalso; omega
  | n + 1, l1, g, I, F, b0, b1, b2, b3, b4, hm => by
    unfold w_M_goesBy_l2
    have m_1 : 0 ≤ (g 214 39) ∧ (g 214 39) ≤ 16 := I.1 214 39
    refine ⟨⟨by omega, by omega⟩, ⟨by omega, by omega⟩, ?_⟩
    refine ⟨fun c13 => ?_, fun c13 => ?_⟩
    · have m_2 := zk_rng I 215 4
      exact hK67 _ I F (by exact zQp_x b3 (by have hf := (zMfr_b F).2.2.2.2.2; omega)) (by assumption)
    · refine ⟨⟨by omega, by omega⟩, ?_⟩
      have m_3 : (-2147483648) ≤ (g 234 (4 * l1)) ∧ (g 234 (4 * l1)) ≤ 2147483647 := I.1 234 (4 * l1)
      have m_4 := zk_rng I 215 0
      refine ⟨⟨by omega, by omega⟩, ⟨by omega, by omega⟩, ?_⟩
      refine ⟨fun c12 => ?_, fun c12 => ?_⟩
      · have m_5 := zk_rng I 215 4
        exact k_M_goesBy_l2 hK67 hQ n I F ⟨by omega, by omega⟩ (by first | omega | (have hf := (zMfr_b F).2.2.2.2.2; omega) | (have hz := zk_r39 I; omega)) (by assumption) (by first | exact zQp_0 | exact zQp_n b3 (zMfr_b F) (by omega) (by assumption) | exact zQp_s b3 (zMfr_b F) b2 (by omega) (by omega) (by assumption) (by assumption) (by assumption)) (by first | omega | (have hf := zMa_4 (by assumption); omega)) (by omega)
      · refine ⟨⟨by omega, by omega⟩, ?_⟩
        refine ⟨⟨by omega, by omega⟩, ?_⟩
        refine ⟨⟨by omega, by omega⟩, ?_⟩
        have m_6 : (-2147483648) ≤ (g 234 ((4 * l1) + 1)) ∧ (g 234 ((4 * l1) + 1)) ≤ 2147483647 := I.1 234 ((4 * l1) + 1)
        have m_7 : (-2147483648) ≤ (g 234 ((4 * l1) + 2)) ∧ (g 234 ((4 * l1) + 2)) ≤ 2147483647 := I.1 234 ((4 * l1) + 2)
        have m_8 : (-2147483648) ≤ (g 234 ((4 * l1) + 3)) ∧ (g 234 ((4 * l1) + 3)) ≤ 2147483647 := I.1 234 ((4 * l1) + 3)
        have hj := I.2.deeds l1 (by omega) (by omega)
        unfold zj_deed at hj
        refine k_M_acts I ⟨by omega, by omega⟩ ⟨by omega, by omega⟩ ⟨by omega, by omega⟩ (by omega) (by omega) (by omega) (by omega) (by omega) (by omega) (fun g10 I_10 F_11 b_9 => ?_)
        have F_12 : zk_fr fr_M_goesBy g0 g10 := zk_ft F F_11 (fun a i => (fun h => Or.elim h (fun h => (Or.inr (Or.inr (Or.inr (Or.inr (Or.inr (Or.inr (Or.inr (Or.inr (Or.inr (Or.inr (Or.inl h)))))))))))) (fun h => Or.elim h (fun h => (Or.inr (Or.inr (Or.inr (Or.inr (Or.inr (Or.inr (Or.inr (Or.inr (Or.inr (Or.inr (Or.inr (Or.inl h))))))))))))) (fun h => Or.elim h (fun h => (Or.inr (Or.inr (Or.inr (Or.inr (Or.inr (Or.inr (Or.inr (Or.inr (Or.inr (Or.inr (Or.inr (Or.inr (Or.inl h)))))))))))))) (fun h => Or.elim h (fun h => (Or.inr (Or.inr (Or.inr (Or.inr (Or.inr (Or.inr (Or.inr (Or.inr (Or.inr (Or.inr (Or.inr (Or.inr (Or.inr (Or.inl h))))))))))))))) (fun h => (Or.inr (Or.inr (Or.inr (Or.inr (Or.inr (Or.inr (Or.inr (Or.inr (Or.inr (Or.inr (Or.inr (Or.inr (Or.inr (Or.inr (Or.inr (Or.inr (Or.inr (Or.inr (Or.inr h)))))))))))))))))))))))))
        have m_13 := zk_rng I_10 215 4
        have m_14 : g10 215 4 = g 215 4 := F_11 _ _ (by unfold fr_M_acts; omega)
        have m_15 := zk_rng I 215 4
        exact k_M_goesBy_l2 hK67 hQ n I_10 F_12 ⟨by omega, by omega⟩ (by first | omega | (have hf := (zMfr_b F).2.2.2.2.2; omega) | (have hz := zk_r39 I; omega)) (by assumption) (by first | exact zQp_0 | exact zQp_n b3 (zMfr_b F) (by omega) (by assumption) | exact zQp_s b3 (zMfr_b F) b2 (by omega) (by omega) (by assumption) (by assumption) (by assumption)) (by first | omega | (have hf := zMa_4 (by assumption); omega)) (by omega)
set_option maxRecDepth 100000 in
set_option maxHeartbeats 4000000 in
theorem k_M_goesBy_l118 {K137 : zi_M → Prop} {Q : Int → zi_M → Prop} {g0 : zi_M} (hK137 : ∀ (g : zi_M), zk_I g → zk_fr fr_M_goesBy g0 g → (zQb g0 g) → (0 = zi_w (g 215 4 - g0 215 4)) → K137 g) (hQ : ∀ (v : Int) (g' : zi_M), zk_I g' → zk_fr fr_M_goesBy g0 g' → ((-2147483648) ≤ v ∧ v ≤ 2147483647) → (zQD g0 g') → (v = zi_w (g' 215 4 - g0 215 4)) → Q v g') : ∀ (n : Nat) {l2 : Int} {g : zi_M}, zk_I g → zk_fr fr_M_goesBy g0 g → (0 ≤ l2 ∧ l2 ≤ 10) → (l2 ≤ g0 214 6) → (zQo l2 g0 g) → (g 215 4 = g0 215 4) → 10 - l2 < (n : Int) → w_M_goesBy_l118 K137 Q n l2 g
  | 0, l2, g, I, F, b0, b1, b2, b3, hm => by exfalso; omega
  | n + 1, l2, g, I, F, b0, b1, b2, b3, hm => by
    unfold w_M_goesBy_l118
    have m_24 : 0 ≤ (g 214 6) ∧ (g 214 6) ≤ 10 := I.1 214 6
    refine ⟨⟨by omega, by omega⟩, ⟨by omega, by omega⟩, ?_⟩
    refine ⟨fun c25 => ?_, fun c25 => ?_⟩
    · have m_25 := zk_rng I 215 4
      exact hK137 _ I F (by exact zQo_x b2 (by have hf := (zMfr_b F).2.2.1; omega)) (by exact zi_w_0 (by assumption))
    · refine k_M_isDry I ⟨by omega, by omega⟩ (fun g23 I_27 F_28 b_26 => ?_)
      have F_29 : zk_fr fr_M_goesBy g0 g23 := zk_ft F F_28 (fun a i => (fun h => Or.elim h (fun h => (Or.inl h)) (fun h => Or.elim h (fun h => (Or.inr (Or.inl h))) (fun h => Or.elim h (fun h => (Or.inr (Or.inr (Or.inl h)))) (fun h => Or.elim h (fun h => (Or.inr (Or.inr (Or.inr (Or.inr (Or.inr (Or.inr (Or.inr (Or.inr (Or.inl h)))))))))) (fun h => Or.elim h (fun h => (Or.inr (Or.inr (Or.inr (Or.inr (Or.inr (Or.inr (Or.inr (Or.inr (Or.inr (Or.inl h))))))))))) (fun h => Or.elim h (fun h => (Or.inr (Or.inr (Or.inr (Or.inr (Or.inr (Or.inr (Or.inr (Or.inr (Or.inr (Or.inr (Or.inr (Or.inr (Or.inr (Or.inr (Or.inl h)))))))))))))))) (fun h => (Or.inr (Or.inr (Or.inr (Or.inr (Or.inr (Or.inr (Or.inr (Or.inr (Or.inr (Or.inr (Or.inr (Or.inr (Or.inr (Or.inr (Or.inr (Or.inr (Or.inl h)))))))))))))))))))))))))
      have m_30 := zk_rng I_27 215 4
      have m_31 : g23 215 4 = g 215 4 := F_28 _ _ (by unfold fr_M_isDry; omega)
      have m_32 := zk_rng I 215 4
      exact k_M_goesBy_l118 hK137 hQ n I_27 F_29 ⟨by omega, by omega⟩ (by first | omega | (have hf := (zMfr_b F).2.2.1; omega) | (have hf := (zMfr_b F).2.2.1; have hz := zk_r6 I; omega)) (by first | exact zQo_s b2 (zMfr_b F) (by omega) (by assumption) (by assumption) | exact zQo_0 ix0 (zMfr_b F) (by assumption)) (by first | assumption | (have hf := zMd_4 (by assumption); omega)) (by omega)
set_option maxRecDepth 100000 in
set_option maxHeartbeats 4000000 in
theorem k_M_goesBy_b137 {l1 : Int} {Q : Int → zi_M → Prop} {g : zi_M} {g0 : zi_M} (I : zk_I g) (F : zk_fr fr_M_goesBy g0 g) (p1 : (-2147483648) ≤ l1 ∧ l1 ≤ 2147483647) (ix0 : zQb g0 g) (ix1 : l1 = zi_w (g 215 4 - g0 215 4)) (hQ : ∀ (v : Int) (g' : zi_M), zk_I g' → zk_fr fr_M_goesBy g0 g' → ((-2147483648) ≤ v ∧ v ≤ 2147483647) → (zQD g0 g') → (v = zi_w (g' 215 4 - g0 215 4)) → Q v g') : w_M_goesBy_b137 l1 g Q := by
  unfold w_M_goesBy_b137
  have m_40 := zk_rng I 215 0
  have m_41 := zi_r_w ((g 215 0) + 1)
  intro g27 e_37
  have I_38 : zk_I g27 := by rw [e_37]; exact zk_upd (zk_nl0 (i := 0) (by omega)).1 (zk_nl0 (i := 0) (by omega)).2 I ⟨by omega, by omega⟩
  have F_39 : zk_fr fr_M_goesBy g0 g27 := by rw [e_37]; exact zk_fu F (Or.inr (Or.inr (Or.inr (Or.inr (Or.inr (Or.inr (Or.inl ⟨rfl, by omega, by omega⟩)))))))
  have m_42 := zk_rng I_38 215 4
  have m_43 : g27 215 4 = g 215 4 := by rw [e_37]; exact zi_u_ni (by decide)
  have m_44 := zk_rng I 215 4
  exact hQ _ _ I_38 F_39 ⟨by omega, by omega⟩ (by exact zQD_of ix0 (by assumption)) (by exact zMu_v ix1 (by assumption))
set_option maxRecDepth 100000 in
set_option maxHeartbeats 4000000 in
theorem k_M_goesBy_b97 {Q : Int → zi_M → Prop} {g : zi_M} {g0 : zi_M} (I : zk_I g) (F : zk_fr fr_M_goesBy g0 g) (ix0 : zQr g0 g) (ix1 : g 215 4 = g0 215 4) (hQ : ∀ (v : Int) (g' : zi_M), zk_I g' → zk_fr fr_M_goesBy g0 g' → ((-2147483648) ≤ v ∧ v ≤ 2147483647) → (zQD g0 g') → (v = zi_w (g' 215 4 - g0 215 4)) → Q v g') : w_M_goesBy_b97 g Q := by
  unfold w_M_goesBy_b97
  have m_23 := zk_rng I 215 3
  refine ⟨⟨by omega, by omega⟩, ?_⟩
  refine ⟨fun c32 => ?_, fun c32 => ?_⟩
  · have m_46 := zk_rng I 215 4
    refine ⟨((10 - 0 : Int).toNat + 1), k_M_goesBy_l118 (fun g26 I_33 F_34 b_35 b_36 => ?_) hQ ((10 - 0 : Int).toNat + 1) I F ⟨by omega, by omega⟩ (by first | omega | (have hf := (zMfr_b F).2.2.1; omega) | (have hf := (zMfr_b F).2.2.1; have hz := zk_r6 I; omega)) (by first | exact zQo_s b2 (zMfr_b F) (by omega) (by assumption) (by assumption) | exact zQo_0 ix0 (zMfr_b F) (by assumption)) (by first | assumption | (have hf := zMd_4 (by assumption); omega)) (by omega)⟩
    have m_45 := zk_rng I_33 215 4
    exact k_M_goesBy_b137 I_33 F_34 ⟨by omega, by omega⟩ (by first | assumption | exact zQb_r ix0 (zMfr_b F) (by assumption) (by assumption) (by assumption)) (by first | assumption | exact zMw_4 ix1 (by assumption)) hQ
  · have m_47 := zk_rng I 215 4
    refine k_M_rains I (fun v29 g30 I_51 F_52 b_48 b_49 b_50 => ?_)
    have F_53 : zk_fr fr_M_goesBy g0 g30 := zk_ft F F_52 (fun a i => (fun h => Or.elim h (fun h => (Or.inl h)) (fun h => Or.elim h (fun h => (Or.inr (Or.inl h))) (fun h => Or.elim h (fun h => (Or.inr (Or.inr (Or.inl h)))) (fun h => Or.elim h (fun h => (Or.inr (Or.inr (Or.inr (Or.inl h))))) (fun h => Or.elim h (fun h => (Or.inr (Or.inr (Or.inr (Or.inr (Or.inl h)))))) (fun h => Or.elim h (fun h => (Or.inr (Or.inr (Or.inr (Or.inr (Or.inr (Or.inl h))))))) (fun h => Or.elim h (fun h => (Or.inr (Or.inr (Or.inr (Or.inr (Or.inr (Or.inr (Or.inr (Or.inl h))))))))) (fun h => Or.elim h (fun h => (Or.inr (Or.inr (Or.inr (Or.inr (Or.inr (Or.inr (Or.inr (Or.inr (Or.inl h)))))))))) (fun h => Or.elim h (fun h => (Or.inr (Or.inr (Or.inr (Or.inr (Or.inr (Or.inr (Or.inr (Or.inr (Or.inr (Or.inl h))))))))))) (fun h => Or.elim h (fun h => (Or.inr (Or.inr (Or.inr (Or.inr (Or.inr (Or.inr (Or.inr (Or.inr (Or.inr (Or.inr (Or.inr (Or.inr (Or.inr (Or.inl h))))))))))))))) (fun h => Or.elim h (fun h => (Or.inr (Or.inr (Or.inr (Or.inr (Or.inr (Or.inr (Or.inr (Or.inr (Or.inr (Or.inr (Or.inr (Or.inr (Or.inr (Or.inr (Or.inl h)))))))))))))))) (fun h => Or.elim h (fun h => (Or.inr (Or.inr (Or.inr (Or.inr (Or.inr (Or.inr (Or.inr (Or.inr (Or.inr (Or.inr (Or.inr (Or.inr (Or.inr (Or.inr (Or.inr (Or.inr (Or.inl h)))))))))))))))))) (fun h => Or.elim h (fun h => (Or.inr (Or.inr (Or.inr (Or.inr (Or.inr (Or.inr (Or.inr (Or.inr (Or.inr (Or.inr (Or.inr (Or.inr (Or.inr (Or.inr (Or.inr (Or.inr (Or.inr (Or.inl h))))))))))))))))))) (fun h => (Or.inr (Or.inr (Or.inr (Or.inr (Or.inr (Or.inr (Or.inr (Or.inr (Or.inr (Or.inr (Or.inr (Or.inr (Or.inr (Or.inr (Or.inr (Or.inr (Or.inr (Or.inr (Or.inl h))))))))))))))))))))))))))))))))))
    have m_54 := zk_rng I_51 215 4
    exact k_M_goesBy_b137 I_51 F_53 ⟨by omega, by omega⟩ (by first | assumption | exact zQb_r ix0 (zMfr_b F) (by assumption) (by assumption) (by assumption)) (by first | assumption | exact zMw_4 ix1 (by assumption)) hQ
set_option maxRecDepth 100000 in
set_option maxHeartbeats 4000000 in
theorem k_M_goesBy {g : zi_M} {Q : Int → zi_M → Prop} (I : zk_I g) (hQ : ∀ (v : Int) (g' : zi_M), zk_I g' → zk_fr fr_M_goesBy g g' → ((-2147483648) ≤ v ∧ v ≤ 2147483647) → (zQD g g') → (v = zi_w (g' 215 4 - g 215 4)) → Q v g') : w_M_goesBy g Q := by
  unfold w_M_goesBy
  have m_64 := zk_rng I 215 4
  refine ⟨((16 - 0 : Int).toNat + 1), k_M_goesBy_l2 (fun g14 I_16 F_17 b_18 b_19 => ?_) hQ ((16 - 0 : Int).toNat + 1) I (zk_f0 _) ⟨by omega, by omega⟩ (by first | omega | (have hf := (zMfr_b F).2.2.2.2.2; omega) | (have hz := zk_r39 I; omega)) (by assumption) (by first | exact zQp_0 | exact zQp_n b3 (zMfr_b F) (by omega) (by assumption) | exact zQp_s b3 (zMfr_b F) b2 (by omega) (by omega) (by assumption) (by assumption) (by assumption)) (by first | omega | (have hf := zMa_4 (by assumption); omega)) (by omega)⟩
  have m_20 := zk_rng I_16 215 0
  refine k_M_weatherOf I_16 ⟨by omega, by omega⟩ (fun v15 b_21 b_22 => ?_)
  refine ⟨⟨by omega, by omega⟩, ?_⟩
  refine ⟨fun c37 => ?_, fun c37 => ?_⟩
  · have m_55 := zk_rng I_16 215 4
    exact k_M_goesBy_b97 I_16 F_17 (by first | exact zQr_n (by assumption) (by assumption) (by assumption) (zMfr_b (by assumption)) | exact zQr_y (by assumption) (by assumption) (by assumption) (by assumption) (by assumption) (zMfr_b (by assumption))) (by first | assumption | (have hf := zMu_4 (by assumption); omega)) hQ
  · refine k_M_weatherOf I_16 ⟨by omega, by omega⟩ (fun v33 b_56 b_57 => ?_)
    intro g36 e_58
    have I_59 : zk_I g36 := by rw [e_58]; exact zk_upd (zk_nl3 (i := 3) (by omega)).1 (zk_nl3 (i := 3) (by omega)).2 I_16 ⟨by omega, by omega⟩
    have F_60 : zk_fr fr_M_goesBy g g36 := by rw [e_58]; exact zk_fu F_17 (Or.inr (Or.inr (Or.inr (Or.inr (Or.inr (Or.inr (Or.inr (Or.inr (Or.inr (Or.inr (Or.inr (Or.inr (Or.inr (Or.inr (Or.inr (Or.inl ⟨rfl, by omega, by omega⟩))))))))))))))))
    have m_61 := zk_rng I_59 215 4
    have m_62 : g36 215 4 = g14 215 4 := by rw [e_58]; exact zi_u_ni (by decide)
    have m_63 := zk_rng I_16 215 4
    exact k_M_goesBy_b97 I_59 F_60 (by first | exact zQr_n (by assumption) (by assumption) (by assumption) (zMfr_b (by assumption)) | exact zQr_y (by assumption) (by assumption) (by assumption) (by assumption) (by assumption) (zMfr_b (by assumption))) (by first | assumption | (have hf := zMu_4 (by assumption); omega)) hQ
-- SpoutNewsModel.days(I)I
set_option maxRecDepth 100000 in
set_option maxHeartbeats 4000000 in
theorem k_M_days_l36 {l1 : Int} {K58 : Int → zi_M → Prop} {Q : Int → zi_M → Prop} {g0 : zi_M} (q1 : 1 ≤ l1 ∧ l1 ≤ 60) (hK58 : ∀ (k2 : Int) (g : zi_M), zk_I g → zk_fr fr_M_days g0 g → ((-2147483648) ≤ k2 ∧ k2 ≤ 2147483647) → (zDM2 l1 g0 g) → (k2 = zi_w (g 215 4 - g0 215 4)) → K58 k2 g) (hQ : ∀ (v : Int) (g' : zi_M), zk_I g' → zk_fr fr_M_days g0 g' → ((-2147483648) ≤ v ∧ v ≤ 2147483647) → ((1 ≤ l1 ∧ l1 ≤ 60 ∧ zi_w (g0 215 0 + l1) ≤ 9999) → zDM2 l1 g0 g') → ((1 ≤ l1 ∧ l1 ≤ 60 ∧ zi_w (g0 215 0 + l1) ≤ 9999) → v = zi_w (g' 215 4 - g0 215 4)) → (¬ (1 ≤ l1 ∧ l1 ≤ 60 ∧ zi_w (g0 215 0 + l1) ≤ 9999) → v = -1 ∧ ∃ x : Int, g' = zi_u g0 214 0 x) → Q v g') : ∀ (n : Nat) {l2 : Int} {l3 : Int} {g : zi_M}, zk_I g → zk_fr fr_M_days g0 g → ((-2147483648) ≤ l2 ∧ l2 ≤ 2147483647) → (0 ≤ l3 ∧ l3 ≤ 60) → (l3 ≤ l1) → (zDm l3 g0 g) → (l2 = zi_w (g 215 4 - g0 215 4)) → 60 - l3 < (n : Int) → w_M_days_l36 l1 K58 Q n l2 l3 g
  | 0, l2, l3, g, I, F, b0, b1, b2, b3, b4, hm => by exfalso; omega
  | n + 1, l2, l3, g, I, F, b0, b1, b2, b3, b4, hm => by
    unfold w_M_days_l36
    refine ⟨⟨by omega, by omega⟩, ⟨by omega, by omega⟩, ?_⟩
    refine ⟨fun c13 => ?_, fun c13 => ?_⟩
    · have m_14 := zk_rng I 215 4
      exact hK58 _ _ I F ⟨by omega, by omega⟩ (by exact zDm_x (by assumption) (by omega)) (by assumption)
    · refine k_M_keepsAhead I (fun g8 I_16 F_17 b_15 => ?_)
      have F_18 : zk_fr fr_M_days g0 g8 := zk_ft F F_17 (fun a i => (fun h => Or.elim h (fun h => (Or.inl h)) (fun h => (Or.inr (Or.inr (Or.inr (Or.inr (Or.inr (Or.inr (Or.inr (Or.inl h)))))))))))
      have m_19 := zk_rng I_16 215 4
      have m_20 : g8 215 4 = g 215 4 := F_17 _ _ (by unfold fr_M_keepsAhead; omega)
      have m_21 := zk_rng I 215 4
      refine k_M_goesBy I_16 (fun v10 g11 I_25 F_26 b_22 b_23 b_24 => ?_)
      have F_27 : zk_fr fr_M_days g0 g11 := zk_ft F_18 F_26 (fun a i => (fun h => Or.elim h (fun h => (Or.inr (Or.inl h))) (fun h => Or.elim h (fun h => (Or.inr (Or.inr (Or.inl h)))) (fun h => Or.elim h (fun h => (Or.inr (Or.inr (Or.inr (Or.inl h))))) (fun h => Or.elim h (fun h => (Or.inr (Or.inr (Or.inr (Or.inr (Or.inl h)))))) (fun h => Or.elim h (fun h => (Or.inr (Or.inr (Or.inr (Or.inr (Or.inr (Or.inl h))))))) (fun h => Or.elim h (fun h => (Or.inr (Or.inr (Or.inr (Or.inr (Or.inr (Or.inr (Or.inr (Or.inr (Or.inl h)))))))))) (fun h => Or.elim h (fun h => (Or.inr (Or.inr (Or.inr (Or.inr (Or.inr (Or.inr (Or.inr (Or.inr (Or.inr (Or.inl h))))))))))) (fun h => Or.elim h (fun h => (Or.inr (Or.inr (Or.inr (Or.inr (Or.inr (Or.inr (Or.inr (Or.inr (Or.inr (Or.inr (Or.inl h)))))))))))) (fun h => Or.elim h (fun h => (Or.inr (Or.inr (Or.inr (Or.inr (Or.inr (Or.inr (Or.inr (Or.inr (Or.inr (Or.inr (Or.inr (Or.inl h))))))))))))) (fun h => Or.elim h (fun h => (Or.inr (Or.inr (Or.inr (Or.inr (Or.inr (Or.inr (Or.inr (Or.inr (Or.inr (Or.inr (Or.inr (Or.inr (Or.inl h)))))))))))))) (fun h => Or.elim h (fun h => (Or.inr (Or.inr (Or.inr (Or.inr (Or.inr (Or.inr (Or.inr (Or.inr (Or.inr (Or.inr (Or.inr (Or.inr (Or.inr (Or.inl h))))))))))))))) (fun h => Or.elim h (fun h => (Or.inr (Or.inr (Or.inr (Or.inr (Or.inr (Or.inr (Or.inr (Or.inr (Or.inr (Or.inr (Or.inr (Or.inr (Or.inr (Or.inr (Or.inl h)))))))))))))))) (fun h => Or.elim h (fun h => (Or.inr (Or.inr (Or.inr (Or.inr (Or.inr (Or.inr (Or.inr (Or.inr (Or.inr (Or.inr (Or.inr (Or.inr (Or.inr (Or.inr (Or.inr (Or.inl h))))))))))))))))) (fun h => Or.elim h (fun h => (Or.inr (Or.inr (Or.inr (Or.inr (Or.inr (Or.inr (Or.inr (Or.inr (Or.inr (Or.inr (Or.inr (Or.inr (Or.inr (Or.inr (Or.inr (Or.inr (Or.inl h)))))))))))))))))) (fun h => Or.elim h (fun h => (Or.inr (Or.inr (Or.inr (Or.inr (Or.inr (Or.inr (Or.inr (Or.inr (Or.inr (Or.inr (Or.inr (Or.inr (Or.inr (Or.inr (Or.inr (Or.inr (Or.inr (Or.inl h))))))))))))))))))) (fun h => Or.elim h (fun h => (Or.inr (Or.inr (Or.inr (Or.inr (Or.inr (Or.inr (Or.inr (Or.inr (Or.inr (Or.inr (Or.inr (Or.inr (Or.inr (Or.inr (Or.inr (Or.inr (Or.inr (Or.inr (Or.inl h)))))))))))))))))))) (fun h => Or.elim h (fun h => (Or.inr (Or.inr (Or.inr (Or.inr (Or.inr (Or.inr (Or.inr (Or.inr (Or.inr (Or.inr (Or.inr (Or.inr (Or.inr (Or.inr (Or.inr (Or.inr (Or.inr (Or.inr (Or.inr (Or.inl h))))))))))))))))))))) (fun h => Or.elim h (fun h => (Or.inr (Or.inr (Or.inr (Or.inr (Or.inr (Or.inr (Or.inr (Or.inr (Or.inr (Or.inr (Or.inr (Or.inr (Or.inr (Or.inr (Or.inr (Or.inr (Or.inr (Or.inr (Or.inr (Or.inr (Or.inl h)))))))))))))))))))))) (fun h => Or.elim h (fun h => (Or.inr (Or.inr (Or.inr (Or.inr (Or.inr (Or.inr (Or.inr (Or.inr (Or.inr (Or.inr (Or.inr (Or.inr (Or.inr (Or.inr (Or.inr (Or.inr (Or.inr (Or.inr (Or.inr (Or.inr (Or.inr (Or.inl h))))))))))))))))))))))) (fun h => (Or.inr (Or.inr (Or.inr (Or.inr (Or.inr (Or.inr (Or.inr (Or.inr (Or.inr (Or.inr (Or.inr (Or.inr (Or.inr (Or.inr (Or.inr (Or.inr (Or.inr (Or.inr (Or.inr (Or.inr (Or.inr (Or.inr h)))))))))))))))))))))))))))))))))))))))))))
      have m_28 := zi_r_w (l2 + v10)
      have m_29 := zk_rng I_25 215 4
      exact k_M_days_l36 q1 hK58 hQ n I_25 F_27 ⟨by omega, by omega⟩ ⟨by omega, by omega⟩ (by omega) (by first | exact zDm_0 I (by assumption) | exact zDm_s b3 (zMfr_y F) (by assumption) (by assumption) (by assumption) (by assumption) (by omega)) (by first | exact zMs_0 (by assumption) | exact zMs_s b4 (by assumption) (by assumption)) (by omega)
set_option maxRecDepth 100000 in
set_option maxHeartbeats 4000000 in
theorem k_M_days {l1 : Int} {g : zi_M} {Q : Int → zi_M → Prop} (I : zk_I g) (p1 : (-2147483648) ≤ l1 ∧ l1 ≤ 2147483647) (hQ : ∀ (v : Int) (g' : zi_M), zk_I g' → zk_fr fr_M_days g g' → ((-2147483648) ≤ v ∧ v ≤ 2147483647) → ((1 ≤ l1 ∧ l1 ≤ 60 ∧ zi_w (g 215 0 + l1) ≤ 9999) → zDM2 l1 g g') → ((1 ≤ l1 ∧ l1 ≤ 60 ∧ zi_w (g 215 0 + l1) ≤ 9999) → v = zi_w (g' 215 4 - g 215 4)) → (¬ (1 ≤ l1 ∧ l1 ≤ 60 ∧ zi_w (g 215 0 + l1) ≤ 9999) → v = -1 ∧ ∃ x : Int, g' = zi_u g 214 0 x) → Q v g') : w_M_days l1 g Q := by
  unfold w_M_days
  intro g1 e_1
  have I_2 : zk_I g1 := by rw [e_1]; exact zk_upd (L := (-2147483648)) (H := 2147483647) rfl rfl I ⟨by omega, by omega⟩
  have F_3 : zk_fr fr_M_days g g1 := by rw [e_1]; exact zk_fu (zk_f0 _) (Or.inr (Or.inr (Or.inr (Or.inr (Or.inr (Or.inr (Or.inl ⟨rfl, rfl⟩)))))))
  refine k_M_isIn I_2 ⟨by omega, by omega⟩ ⟨by omega, by omega⟩ ⟨by omega, by omega⟩ (fun v2 b_4 b_5 b_6 => ?_)
  refine ⟨fun c18 => ?_, fun c18 => ?_⟩
  · have m_7 := zk_rng I_2 215 4
    have m_8 : g1 215 4 = g 215 4 := by rw [e_1]; exact zi_u_ne (by decide)
    have m_9 := zk_rng I 215 4
    exact hQ _ _ I_2 F_3 ⟨by omega, by omega⟩ (by first | (intro hx; assumption) | (intro hx; exfalso; omega) | (intro hx; have hy := zDu (by assumption) (by assumption); exfalso; omega)) (by first | (intro hx; exfalso; omega) | (intro hx; have hy := zDu (by assumption) (by assumption); exfalso; omega) | (intro hx; have hy := zDu2 (by assumption) (by assumption); exfalso; omega) | exact fun _ => by assumption) (by first | (intro hx; exfalso; omega) | (intro hx; have hy := zDu (by assumption) (by assumption); exfalso; omega) | (intro hx; have hy := zDu2 (by assumption) (by assumption); exfalso; omega) | exact fun _ => ⟨rfl, _, by assumption⟩)
  · have m_10 := zk_rng I_2 215 0
    have m_11 : g1 215 0 = g 215 0 := by rw [e_1]; exact zi_u_ne (by decide)
    have m_12 := zk_rng I 215 0
    have m_13 := zi_r_w ((g1 215 0) + l1)
    refine ⟨fun c17 => ?_, fun c17 => ?_⟩
    · have m_36 := zk_rng I_2 215 4
      have m_37 : g1 215 4 = g 215 4 := by rw [e_1]; exact zi_u_ne (by decide)
      have m_38 := zk_rng I 215 4
      refine ⟨((60 - 0 : Int).toNat + 1), k_M_days_l36 (l1 := l1) ⟨by omega, by omega⟩ (fun k14 g15 I_30 F_31 b_32 b_33 b_34 => ?_) hQ ((60 - 0 : Int).toNat + 1) I_2 F_3 ⟨by omega, by omega⟩ ⟨by omega, by omega⟩ (by omega) (by first | exact zDm_0 I (by assumption) | exact zDm_s b3 (zMfr_y F) (by assumption) (by assumption) (by assumption) (by assumption) (by omega)) (by first | exact zMs_0 (by assumption) | exact zMs_s b4 (by assumption) (by assumption)) (by omega)⟩
      have m_35 := zk_rng I_30 215 4
      exact hQ _ _ I_30 F_31 ⟨by omega, by omega⟩ (by first | (intro hx; assumption) | (intro hx; exfalso; omega) | (intro hx; have hy := zDu (by assumption) (by assumption); exfalso; omega)) (by first | (intro hx; exfalso; omega) | (intro hx; have hy := zDu (by assumption) (by assumption); exfalso; omega) | (intro hx; have hy := zDu2 (by assumption) (by assumption); exfalso; omega) | exact fun _ => by assumption) (by first | (intro hx; exfalso; omega) | (intro hx; have hy := zDu (by assumption) (by assumption); exfalso; omega) | (intro hx; have hy := zDu2 (by assumption) (by assumption); exfalso; omega) | exact fun _ => ⟨rfl, _, by assumption⟩)
    · have m_39 := zk_rng I_2 215 4
      have m_40 : g1 215 4 = g 215 4 := by rw [e_1]; exact zi_u_ne (by decide)
      have m_41 := zk_rng I 215 4
      exact hQ _ _ I_2 F_3 ⟨by omega, by omega⟩ (by first | (intro hx; assumption) | (intro hx; exfalso; omega) | (intro hx; have hy := zDu (by assumption) (by assumption); exfalso; omega)) (by first | (intro hx; exfalso; omega) | (intro hx; have hy := zDu (by assumption) (by assumption); exfalso; omega) | (intro hx; have hy := zDu2 (by assumption) (by assumption); exfalso; omega) | exact fun _ => by assumption) (by first | (intro hx; exfalso; omega) | (intro hx; have hy := zDu (by assumption) (by assumption); exfalso; omega) | (intro hx; have hy := zDu2 (by assumption) (by assumption); exfalso; omega) | exact fun _ => ⟨rfl, _, by assumption⟩)
-- SpoutNews.feedFour(I)V
theorem k_S_feedFour_1 {l1 l2 : Int} {K : zi_M → Prop} {Q : Int → zi_M → Prop} {m : Nat} {g : zi_M} (I : zk_I g) (hl : l2 = 0 ∨ l2 = 8 ∨ l2 = 16 ∨ l2 = 24) (r : zi_r l1) (hn : g 0 8 < 400) (h : ∀ g' : zi_M, zk_I g' → zk_fr fr_S_feedFour g g' → g' 0 8 = g 0 8 + 1 → g' 190 = zup (g 190) (g 0 8) (zby l1 l2) → w_S_feedFour_l3 l1 K Q m (l2 + (-8)) g') : w_S_feedFour_l3 l1 K Q (m + 1) l2 g := by
  have b8 : 0 ≤ g 0 8 ∧ g 0 8 ≤ 400 := I.1 0 8
  unfold w_S_feedFour_l3
  refine ⟨⟨by omega, by omega⟩, fun c => by exfalso; omega, fun _ => ⟨⟨by omega, by omega⟩, fun c => by exfalso; omega, fun _ => ⟨⟨by omega, by omega⟩, ?_⟩⟩⟩
  intro g4 e4 g5 e5
  rw [zby_u r hl] at e4
  have b := zby_b l1 l2
  have I4 : zk_I g4 := by rw [e4]; exact zk_upd (L := 0) (H := 255) rfl rfl I ⟨by omega, by omega⟩
  have s8 : g4 0 8 = g 0 8 := by rw [e4]; exact zi_u_ne (by decide)
  refine h g5 (by rw [e5]; exact zk_upd (L := 0) (H := 400) rfl rfl I4 ⟨by omega, by omega⟩) (by rw [e5, e4]; exact zk_fu (zk_fu (zk_f0 _) (Or.inl rfl)) (Or.inr ⟨rfl, rfl⟩)) (by rw [e5, zi_u_eq, s8]) (by rw [e5, zi_u_row (by decide), e4, zup_u])
theorem k_S_feedFour {l1 : Int} {g : zi_M} {Q : Int → zi_M → Prop} (I : zk_I g) (p1 : (-2147483648) ≤ l1 ∧ l1 ≤ 2147483647) (hQ : ∀ g' : zi_M, zk_I g' → zk_fr fr_S_feedFour g g' → (g 0 8 ≤ 396 → g' 0 8 = g 0 8 + 4) → (g 0 8 ≤ 396 → g' 190 = zty (g 190) (g 0 8) l1) → Q 0 g') : w_S_feedFour l1 g Q := by
  have b8 : 0 ≤ g 0 8 ∧ g 0 8 ≤ 400 := I.1 0 8
  unfold w_S_feedFour
  by_cases c : g 0 8 ≤ 396
  · refine ⟨5, k_S_feedFour_1 I (by decide) p1 (by omega) (fun g1 I1 F1 n1 r1 => k_S_feedFour_1 I1 (by decide) p1 (by omega) (fun g2 I2 F2 n2 r2 => k_S_feedFour_1 I2 (by decide) p1 (by omega) (fun g3 I3 F3 n3 r3 => k_S_feedFour_1 I3 (by decide) p1 (by omega) (fun g4 I4 F4 n4 r4 => ?_))))⟩
    unfold w_S_feedFour_l3
    refine ⟨by decide, fun _ => ?_, fun q => absurd q (by decide)⟩
    refine hQ g4 I4 (zk_ft (zk_ft (zk_ft F1 F2 (fun _ _ h => h)) F3 (fun _ _ h => h)) F4 (fun _ _ h => h)) (fun _ => by omega) (fun _ => ?_)
    rw [r4, r3, r2, r1, n3, n2, n1]
    rfl
  · have st : ∀ (m : Nat) (l2 : Int) (x : zi_M), zk_I x → zk_fr fr_S_feedFour g x → (l2 = 0 ∨ l2 = 8 ∨ l2 = 16 ∨ l2 = 24 ∨ l2 = -8) → l2 + 8 < 8 * (m : Int) → w_S_feedFour_l3 l1 (fun g8 => Q 0 g8) Q m l2 x := by
      intro m
      induction m with
      | zero => intro l2 x Ix Fx hl hm; exfalso; omega
      | succ m ih =>
        intro l2 x Ix Fx hl hm
        have bx : 0 ≤ x 0 8 ∧ x 0 8 ≤ 400 := Ix.1 0 8
        by_cases q : l2 = -8 ∨ 400 ≤ x 0 8
        · unfold w_S_feedFour_l3
          have e : Q 0 x := hQ x Ix Fx (fun q => absurd q c) (fun q => absurd q c)
          exact ⟨⟨by omega, by omega⟩, fun _ => e, fun _ => ⟨⟨by omega, by omega⟩, fun _ => e, fun _ => by exfalso; omega⟩⟩
        · exact k_S_feedFour_1 Ix (by omega) p1 (by omega) (fun y Iy Fy _ _ => ih (l2 + (-8)) y Iy (zk_ft Fx Fy (fun _ _ h => h)) (by omega) (by omega))
    exact ⟨5, st 5 24 g I (zk_f0 _) (by decide) (by decide)⟩

-- SpoutNews.feed(IIIII)I
theorem k_S_feed {l1 : Int} {l2 : Int} {l3 : Int} {l4 : Int} {l5 : Int} {g : zi_M} {Q : Int → zi_M → Prop} (I : zk_I g) (p1 : (-2147483648) ≤ l1 ∧ l1 ≤ 2147483647) (p2 : (-2147483648) ≤ l2 ∧ l2 ≤ 2147483647) (p3 : (-2147483648) ≤ l3 ∧ l3 ≤ 2147483647) (p4 : (-2147483648) ≤ l4 ∧ l4 ≤ 2147483647) (p5 : (-2147483648) ≤ l5 ∧ l5 ≤ 2147483647) (hQ : ∀ (v : Int) (g' : zi_M), zk_I g' → zk_fr fr_S_feed g g' → ((-1) ≤ v ∧ v ≤ 400) → (g 0 8 ≤ 380 → v = g 0 8 + 20 ∧ g' 0 8 = g 0 8 + 20) → (380 < g 0 8 → v = -1 ∧ g' 0 8 = g 0 8) → (g 0 8 ≤ 380 → g' 190 = zfd (g 190) (g 0 8) l1 l2 l3 l4 l5) → (380 < g 0 8 → g' 190 = g 190) → Q v g') : w_S_feed l1 l2 l3 l4 l5 g Q := by
  have b8 : 0 ≤ g 0 8 ∧ g 0 8 ≤ 400 := I.1 0 8
  unfold w_S_feed
  refine ⟨⟨by omega, by omega⟩, fun c => ?_, fun c => ?_⟩
  · refine k_S_feedFour I p1 (fun g1 I1 F1 n1 r1 => ?_)
    have m1 := n1 (by omega)
    refine k_S_feedFour I1 p2 (fun g2 I2 F2 n2 r2 => ?_)
    have m2 := n2 (by omega)
    refine k_S_feedFour I2 p3 (fun g3 I3 F3 n3 r3 => ?_)
    have m3 := n3 (by omega)
    refine k_S_feedFour I3 p4 (fun g4 I4 F4 n4 r4 => ?_)
    have m4 := n4 (by omega)
    refine k_S_feedFour I4 p5 (fun g5 I5 F5 n5 r5 => ?_)
    have m5 := n5 (by omega)
    have b5 : 0 ≤ g5 0 8 ∧ g5 0 8 ≤ 400 := I5.1 0 8
    refine hQ _ g5 I5 (zk_ft (zk_ft (zk_ft (zk_ft F1 F2 (fun _ _ h => h)) F3 (fun _ _ h => h)) F4 (fun _ _ h => h)) F5 (fun _ _ h => h)) ⟨by omega, by omega⟩ (fun _ => ⟨by omega, by omega⟩) (fun q => by exfalso; omega) (fun _ => ?_) (fun q => by exfalso; omega)
    rw [r5 (by omega), r4 (by omega), r3 (by omega), r2 (by omega), r1 (by omega), show g4 0 8 = g 0 8 + 16 by omega, show g3 0 8 = g 0 8 + 12 by omega, show g2 0 8 = g 0 8 + 8 by omega, m1]
    rfl
  · exact hQ (-1) g I (zk_f0 _) ⟨by decide, by decide⟩ (fun q => by exfalso; omega) (fun _ => ⟨rfl, rfl⟩) (fun q => by exfalso; omega) (fun _ => rfl)

-- SpoutNewsModel.types(I)V
theorem k_M_types_1 {l1 l2 : Int} {K : zi_M → Prop} {Q : Int → zi_M → Prop} {m : Nat} {g : zi_M} (I : zk_I g) (hl : l2 = 0 ∨ l2 = 8 ∨ l2 = 16 ∨ l2 = 24) (hn : g 214 13 < 400) (h : ∀ g' : zi_M, zk_I g' → zk_fr fr_M_types g g' → g' 214 13 = g 214 13 + 1 → g' 222 = zup (g 222) (g 214 13) (zby l1 l2) → w_M_types_l3 l1 K Q m (l2 + (-8)) g') : w_M_types_l3 l1 K Q (m + 1) l2 g := by
  have b8 : 0 ≤ g 214 13 ∧ g 214 13 ≤ 400 := I.1 214 13
  unfold w_M_types_l3
  refine ⟨⟨by omega, by omega⟩, fun c => by exfalso; omega, fun _ => ⟨⟨by omega, by omega⟩, ?_⟩⟩
  intro g4 e4 g5 e5
  have b := zby_b l1 l2
  have I4 : zk_I g4 := by rw [e4]; exact zk_upd (L := 0) (H := 255) rfl rfl I b
  have s8 : g4 214 13 = g 214 13 := by rw [e4]; exact zi_u_ne (by decide)
  refine h g5 (by rw [e5]; exact zk_upd (L := 0) (H := 400) rfl rfl I4 ⟨by omega, by omega⟩) (by rw [e5, e4]; exact zk_fu (zk_fu (zk_f0 _) (Or.inl rfl)) (Or.inr ⟨rfl, rfl⟩)) (by rw [e5, zi_u_eq, s8]) (by rw [e5, zi_u_row (by decide), e4, zup_u]; rfl)
theorem k_M_types {l1 : Int} {g : zi_M} {Q : Int → zi_M → Prop} (I : zk_I g) (p1 : (-2147483648) ≤ l1 ∧ l1 ≤ 2147483647) (px0 : g 214 13 ≤ 396) (hQ : ∀ g' : zi_M, zk_I g' → zk_fr fr_M_types g g' → (g' 214 13 = g 214 13 + 4) → (g' 222 = zty (g 222) (g 214 13) l1) → Q 0 g') : w_M_types l1 g Q := by
  have b8 : 0 ≤ g 214 13 ∧ g 214 13 ≤ 400 := I.1 214 13
  unfold w_M_types
  refine ⟨5, k_M_types_1 I (by decide) (by omega) (fun g1 I1 F1 n1 r1 => k_M_types_1 I1 (by decide) (by omega) (fun g2 I2 F2 n2 r2 => k_M_types_1 I2 (by decide) (by omega) (fun g3 I3 F3 n3 r3 => k_M_types_1 I3 (by decide) (by omega) (fun g4 I4 F4 n4 r4 => ?_))))⟩
  unfold w_M_types_l3
  refine ⟨by decide, fun _ => ?_, fun q => absurd q (by decide)⟩
  refine hQ g4 I4 (zk_ft (zk_ft (zk_ft F1 F2 (fun _ _ h => h)) F3 (fun _ _ h => h)) F4 (fun _ _ h => h)) (by omega) ?_
  rw [r4, r3, r2, r1, n3, n2, n1]
  rfl

-- SpoutNewsModel.feed(IIIII)I
theorem k_M_feed {l1 : Int} {l2 : Int} {l3 : Int} {l4 : Int} {l5 : Int} {g : zi_M} {Q : Int → zi_M → Prop} (I : zk_I g) (p1 : (-2147483648) ≤ l1 ∧ l1 ≤ 2147483647) (p2 : (-2147483648) ≤ l2 ∧ l2 ≤ 2147483647) (p3 : (-2147483648) ≤ l3 ∧ l3 ≤ 2147483647) (p4 : (-2147483648) ≤ l4 ∧ l4 ≤ 2147483647) (p5 : (-2147483648) ≤ l5 ∧ l5 ≤ 2147483647) (hQ : ∀ (v : Int) (g' : zi_M), zk_I g' → zk_fr fr_M_feed g g' → ((-1) ≤ v ∧ v ≤ 400) → (g 214 13 ≤ 380 → v = g 214 13 + 20 ∧ g' 214 13 = g 214 13 + 20) → (380 < g 214 13 → v = -1 ∧ g' 214 13 = g 214 13) → (g 214 13 ≤ 380 → g' 222 = zfd (g 222) (g 214 13) l1 l2 l3 l4 l5) → (380 < g 214 13 → g' 222 = g 222) → Q v g') : w_M_feed l1 l2 l3 l4 l5 g Q := by
  unfold w_M_feed
  intro g0 e0
  have I0 : zk_I g0 := by rw [e0]; exact zk_upd (L := -2147483648) (H := 2147483647) rfl rfl I ⟨by decide, by decide⟩
  have F0 : zk_fr fr_M_feed g g0 := by rw [e0]; exact zk_fu (zk_f0 _) (Or.inr (Or.inl ⟨rfl, rfl⟩))
  have s13 : g0 214 13 = g 214 13 := by rw [e0]; exact zi_u_ni (by decide)
  have s222 : g0 222 = g 222 := by rw [e0]; exact zi_u_row (by decide)
  have b8 : 0 ≤ g0 214 13 ∧ g0 214 13 ≤ 400 := I0.1 214 13
  have sub : ∀ a i, fr_M_types a i → fr_M_feed a i := fun a i h => by unfold fr_M_types at h; unfold fr_M_feed; omega
  refine ⟨⟨by omega, by omega⟩, fun c => ?_, fun c => ?_⟩
  · refine k_M_types I0 p1 (by omega) (fun g1 I1 F1 m1 r1 => ?_)
    refine k_M_types I1 p2 (by omega) (fun g2 I2 F2 m2 r2 => ?_)
    refine k_M_types I2 p3 (by omega) (fun g3 I3 F3 m3 r3 => ?_)
    refine k_M_types I3 p4 (by omega) (fun g4 I4 F4 m4 r4 => ?_)
    refine k_M_types I4 p5 (by omega) (fun g5 I5 F5 m5 r5 => ?_)
    have b5 : 0 ≤ g5 214 13 ∧ g5 214 13 ≤ 400 := I5.1 214 13
    refine hQ _ g5 I5 (zk_ft (zk_ft (zk_ft (zk_ft (zk_ft F0 F1 sub) F2 sub) F3 sub) F4 sub) F5 sub) ⟨by omega, by omega⟩ (fun _ => ⟨by omega, by omega⟩) (fun q => by exfalso; omega) (fun _ => ?_) (fun q => by exfalso; omega)
    rw [r5, r4, r3, r2, r1, show g4 214 13 = g0 214 13 + 16 by omega, show g3 214 13 = g0 214 13 + 12 by omega, show g2 214 13 = g0 214 13 + 8 by omega, m1, s222, s13]
    rfl
  · exact hQ (-1) g0 I0 F0 ⟨by decide, by decide⟩ (fun q => by exfalso; omega) (fun _ => ⟨rfl, s13⟩) (fun q => by exfalso; omega) (fun _ => s222)

-- SpoutNews.end(I)Z
set_option maxRecDepth 100000 in
set_option maxHeartbeats 4000000 in
theorem k_S_end {l1 : Int} {g : zi_M} {Q : Int → zi_M → Prop} (I : zk_I g) (p1 : (-2147483648) ≤ l1 ∧ l1 ≤ 2147483647) (hQ : ∀ (v : Int) (g' : zi_M), zk_I g' → zk_fr fr_S_end g g' → (0 ≤ v ∧ v ≤ 1) → (0 ≤ l1 ∧ l1 ≤ g 0 8 → v = 1 ∧ g' 0 8 = l1) → (¬ (0 ≤ l1 ∧ l1 ≤ g 0 8) → v = 0 ∧ g' 0 8 = g 0 8) → Q v g') : w_S_end l1 g Q := by
  unfold w_S_end
  refine ⟨⟨by omega, by omega⟩, ?_⟩
  refine ⟨fun c5 => ?_, fun c5 => ?_⟩
  · have m_1 : 0 ≤ (g 0 8) ∧ (g 0 8) ≤ 400 := I.1 0 8
    exact hQ _ _ I (zk_f0 _) ⟨by omega, by omega⟩ (by omega) (by omega)
  · have m_2 : 0 ≤ (g 0 8) ∧ (g 0 8) ≤ 400 := I.1 0 8
    refine ⟨⟨by omega, by omega⟩, ?_⟩
    refine ⟨fun c4 => ?_, fun c4 => ?_⟩
    · intro g3 e_3
      have I_4 : zk_I g3 := by rw [e_3]; exact zk_upd (L := 0) (H := 400) rfl rfl I ⟨by omega, by omega⟩
      have F_5 : zk_fr fr_S_end g g3 := by rw [e_3]; exact zk_fu (zk_f0 _) ⟨rfl, rfl⟩
      have m_6 : 0 ≤ (g3 0 8) ∧ (g3 0 8) ≤ 400 := I_4.1 0 8
      have m_7 : g3 0 8 = l1 := by rw [e_3]; exact zi_u_eq
      exact hQ _ _ I_4 F_5 ⟨by omega, by omega⟩ (by omega) (by omega)
    · exact hQ _ _ I (zk_f0 _) ⟨by omega, by omega⟩ (by omega) (by omega)
-- SpoutNewsModel.end(I)Z
set_option maxRecDepth 100000 in
set_option maxHeartbeats 4000000 in
theorem k_M_end {l1 : Int} {g : zi_M} {Q : Int → zi_M → Prop} (I : zk_I g) (p1 : (-2147483648) ≤ l1 ∧ l1 ≤ 2147483647) (hQ : ∀ (v : Int) (g' : zi_M), zk_I g' → zk_fr fr_M_end g g' → (0 ≤ v ∧ v ≤ 1) → (0 ≤ l1 ∧ l1 ≤ g 214 13 → v = 1 ∧ g' 214 13 = l1) → (¬ (0 ≤ l1 ∧ l1 ≤ g 214 13) → v = 0 ∧ g' 214 13 = g 214 13) → Q v g') : w_M_end l1 g Q := by
  unfold w_M_end
  intro g1 e_1
  have I_2 : zk_I g1 := by rw [e_1]; exact zk_upd (L := (-2147483648)) (H := 2147483647) rfl rfl I ⟨by omega, by omega⟩
  have F_3 : zk_fr fr_M_end g g1 := by rw [e_1]; exact zk_fu (zk_f0 _) (Or.inl ⟨rfl, rfl⟩)
  have m_4 : 0 ≤ (g1 214 13) ∧ (g1 214 13) ≤ 400 := I_2.1 214 13
  have m_5 : g1 214 13 = g 214 13 := by rw [e_1]; exact zi_u_ni (by decide)
  have m_6 : 0 ≤ (g 214 13) ∧ (g 214 13) ≤ 400 := I.1 214 13
  refine k_M_isIn I_2 ⟨by omega, by omega⟩ ⟨by omega, by omega⟩ ⟨by omega, by omega⟩ (fun v2 b_7 b_8 b_9 => ?_)
  refine ⟨fun c6 => ?_, fun c6 => ?_⟩
  · intro g5 e_10
    have I_11 : zk_I g5 := by rw [e_10]; exact zk_upd (L := 0) (H := 400) rfl rfl I_2 ⟨by omega, by omega⟩
    have F_12 : zk_fr fr_M_end g g5 := by rw [e_10]; exact zk_fu F_3 (Or.inr ⟨rfl, rfl⟩)
    have m_13 : 0 ≤ (g5 214 13) ∧ (g5 214 13) ≤ 400 := I_11.1 214 13
    have m_14 : g5 214 13 = l1 := by rw [e_10]; exact zi_u_eq
    exact hQ _ _ I_11 F_12 ⟨by omega, by omega⟩ (by omega) (by omega)
  · exact hQ _ _ I_2 F_3 ⟨by omega, by omega⟩ (by omega) (by omega)
-- SpoutNews$Tokens.clear()V
set_option maxRecDepth 100000 in
set_option maxHeartbeats 4000000 in
theorem k_Tokens_clear {g : zi_M} {Q : Int → zi_M → Prop} (I : zk_I g) (hQ : ∀ g' : zi_M, zk_I g' → zk_fr fr_Tokens_clear g g' → (g' 191 3 = 0) → (g' 191 4 = 0) → (g' 191 5 = 0) → (g' 191 6 = -1) → Q 0 g') : w_Tokens_clear g Q := by
  unfold w_Tokens_clear
  intro g1 e_1
  have I_2 : zk_I g1 := by rw [e_1]; exact zk_upd (L := 0) (H := 401) rfl rfl I ⟨by omega, by omega⟩
  have F_3 : zk_fr fr_Tokens_clear g g1 := by rw [e_1]; exact zk_fu (zk_f0 _) (Or.inl ⟨rfl, rfl⟩)
  intro g2 e_4
  have I_5 : zk_I g2 := by rw [e_4]; exact zk_upd (L := 0) (H := 401) rfl rfl I_2 ⟨by omega, by omega⟩
  have F_6 : zk_fr fr_Tokens_clear g g2 := by rw [e_4]; exact zk_fu F_3 (Or.inr (Or.inl ⟨rfl, rfl⟩))
  intro g3 e_7
  have I_8 : zk_I g3 := by rw [e_7]; exact zk_upd (L := 0) (H := 3) rfl rfl I_5 ⟨by omega, by omega⟩
  have F_9 : zk_fr fr_Tokens_clear g g3 := by rw [e_7]; exact zk_fu F_6 (Or.inr (Or.inr (Or.inl ⟨rfl, rfl⟩)))
  intro g4 e_10
  have I_11 : zk_I g4 := by rw [e_10]; exact zk_upd (L := (-1)) (H := 400) rfl rfl I_8 ⟨by omega, by omega⟩
  have F_12 : zk_fr fr_Tokens_clear g g4 := by rw [e_10]; exact zk_fu F_9 (Or.inr (Or.inr (Or.inr ⟨rfl, rfl⟩)))
  have m_13 : 0 ≤ (g4 191 3) ∧ (g4 191 3) ≤ 401 := I_11.1 191 3
  have m_14 : g4 191 3 = g3 191 3 := by rw [e_10]; exact zi_u_ni (by decide)
  have m_15 : 0 ≤ (g3 191 3) ∧ (g3 191 3) ≤ 401 := I_8.1 191 3
  have m_16 : g3 191 3 = g2 191 3 := by rw [e_7]; exact zi_u_ni (by decide)
  have m_17 : 0 ≤ (g2 191 3) ∧ (g2 191 3) ≤ 401 := I_5.1 191 3
  have m_18 : g2 191 3 = g1 191 3 := by rw [e_4]; exact zi_u_ni (by decide)
  have m_19 : 0 ≤ (g1 191 3) ∧ (g1 191 3) ≤ 401 := I_2.1 191 3
  have m_20 : g1 191 3 = 0 := by rw [e_1]; exact zi_u_eq
  have m_21 : 0 ≤ (g4 191 4) ∧ (g4 191 4) ≤ 401 := I_11.1 191 4
  have m_22 : g4 191 4 = g3 191 4 := by rw [e_10]; exact zi_u_ni (by decide)
  have m_23 : 0 ≤ (g3 191 4) ∧ (g3 191 4) ≤ 401 := I_8.1 191 4
  have m_24 : g3 191 4 = g2 191 4 := by rw [e_7]; exact zi_u_ni (by decide)
  have m_25 : 0 ≤ (g2 191 4) ∧ (g2 191 4) ≤ 401 := I_5.1 191 4
  have m_26 : g2 191 4 = 0 := by rw [e_4]; exact zi_u_eq
  have m_27 : 0 ≤ (g4 191 5) ∧ (g4 191 5) ≤ 3 := I_11.1 191 5
  have m_28 : g4 191 5 = g3 191 5 := by rw [e_10]; exact zi_u_ni (by decide)
  have m_29 : 0 ≤ (g3 191 5) ∧ (g3 191 5) ≤ 3 := I_8.1 191 5
  have m_30 : g3 191 5 = 0 := by rw [e_7]; exact zi_u_eq
  have m_31 : (-1) ≤ (g4 191 6) ∧ (g4 191 6) ≤ 400 := I_11.1 191 6
  have m_32 : g4 191 6 = (-1) := by rw [e_10]; exact zi_u_eq
  exact hQ _ I_11 F_12 (by omega) (by omega) (by omega) (by omega)
-- SpoutNews$Tokens.isLetter(I)Z
set_option maxRecDepth 100000 in
set_option maxHeartbeats 4000000 in
theorem k_Tokens_isLetter_b12 {l0 : Int} {Q : Int → zi_M → Prop} {g : zi_M} (I : zk_I g) (p0 : 0 ≤ l0 ∧ l0 ≤ 255) (ix0 : ¬ (97 ≤ l0 ∧ l0 ≤ 122)) (hQ : ∀ v : Int, (l0 < 97 → l0 < 65 → v = 0) → (l0 < 97 → 65 ≤ l0 → 90 < l0 → v = 0) → (l0 < 97 → 65 ≤ l0 → l0 ≤ 90 → v = 1) → (97 ≤ l0 → l0 ≤ 122 → v = 1) → (97 ≤ l0 → 122 < l0 → l0 < 65 → v = 0) → (97 ≤ l0 → 122 < l0 → 65 ≤ l0 → 90 < l0 → v = 0) → (97 ≤ l0 → 122 < l0 → 65 ≤ l0 → l0 ≤ 90 → v = 1) → (zlt l0 → v = 1) → (¬ zlt l0 → v = 0) → Q v g) : w_Tokens_isLetter_b12 l0 g Q := by
  unfold w_Tokens_isLetter_b12
  refine ⟨⟨by omega, by omega⟩, ?_⟩
  refine ⟨fun c4 => ?_, fun c4 => ?_⟩
  · exact hQ _ (by intros; omega) (by intros; omega) (by intros; omega) (by intros; omega) (by intros; omega) (by intros; omega) (by intros; omega) (by intro hv; unfold zlt at hv; omega) (by intro hv; unfold zlt at hv; omega)
  · refine ⟨fun c3 => ?_, fun c3 => ?_⟩
    · exact hQ _ (by intros; omega) (by intros; omega) (by intros; omega) (by intros; omega) (by intros; omega) (by intros; omega) (by intros; omega) (by intro hv; unfold zlt at hv; omega) (by intro hv; unfold zlt at hv; omega)
    · exact hQ _ (by intros; omega) (by intros; omega) (by intros; omega) (by intros; omega) (by intros; omega) (by intros; omega) (by intros; omega) (by intro hv; unfold zlt at hv; omega) (by intro hv; unfold zlt at hv; omega)
set_option maxRecDepth 100000 in
set_option maxHeartbeats 4000000 in
theorem k_Tokens_isLetter {l0 : Int} {g : zi_M} {Q : Int → zi_M → Prop} (I : zk_I g) (p0 : 0 ≤ l0 ∧ l0 ≤ 255) (hQ : ∀ v : Int, (l0 < 97 → l0 < 65 → v = 0) → (l0 < 97 → 65 ≤ l0 → 90 < l0 → v = 0) → (l0 < 97 → 65 ≤ l0 → l0 ≤ 90 → v = 1) → (97 ≤ l0 → l0 ≤ 122 → v = 1) → (97 ≤ l0 → 122 < l0 → l0 < 65 → v = 0) → (97 ≤ l0 → 122 < l0 → 65 ≤ l0 → 90 < l0 → v = 0) → (97 ≤ l0 → 122 < l0 → 65 ≤ l0 → l0 ≤ 90 → v = 1) → (zlt l0 → v = 1) → (¬ zlt l0 → v = 0) → Q v g) : w_Tokens_isLetter l0 g Q := by
  unfold w_Tokens_isLetter
  refine ⟨⟨by omega, by omega⟩, ?_⟩
  refine ⟨fun c6 => ?_, fun c6 => ?_⟩
  · exact k_Tokens_isLetter_b12 I ⟨by omega, by omega⟩ (by omega) hQ
  · refine ⟨fun c5 => ?_, fun c5 => ?_⟩
    · exact hQ _ (by intros; omega) (by intros; omega) (by intros; omega) (by intros; omega) (by intros; omega) (by intros; omega) (by intros; omega) (by intro hv; unfold zlt at hv; omega) (by intro hv; unfold zlt at hv; omega)
    · exact k_Tokens_isLetter_b12 I ⟨by omega, by omega⟩ (by omega) hQ
-- SpoutNews$Tokens.isDigit(I)Z
set_option maxRecDepth 100000 in
set_option maxHeartbeats 4000000 in
theorem k_Tokens_isDigit {l0 : Int} {g : zi_M} {Q : Int → zi_M → Prop} (I : zk_I g) (p0 : 0 ≤ l0 ∧ l0 ≤ 255) (hQ : ∀ v : Int, (l0 < 48 → v = 0) → (48 ≤ l0 → 57 < l0 → v = 0) → (48 ≤ l0 → l0 ≤ 57 → v = 1) → Q v g) : w_Tokens_isDigit l0 g Q := by
  unfold w_Tokens_isDigit
  refine ⟨⟨by omega, by omega⟩, ?_⟩
  refine ⟨fun c3 => ?_, fun c3 => ?_⟩
  · exact hQ _ (by intros; omega) (by intros; omega) (by intros; omega)
  · refine ⟨fun c2 => ?_, fun c2 => ?_⟩
    · exact hQ _ (by intros; omega) (by intros; omega) (by intros; omega)
    · exact hQ _ (by intros; omega) (by intros; omega) (by intros; omega)
-- SpoutNews$Tokens.isSignOfLaw(I)Z
set_option maxRecDepth 100000 in
set_option maxHeartbeats 4000000 in
theorem k_Tokens_isSignOfLaw {l0 : Int} {g : zi_M} {Q : Int → zi_M → Prop} (I : zk_I g) (p0 : 0 ≤ l0 ∧ l0 ≤ 255) (hQ : ∀ v : Int, (l0 = 59 → v = 1) → (¬ l0 = 59 → l0 = 43 → v = 1) → (¬ l0 = 59 → ¬ l0 = 43 → l0 = 45 → v = 1) → (¬ l0 = 59 → ¬ l0 = 43 → ¬ l0 = 45 → l0 = 42 → v = 1) → (¬ l0 = 59 → ¬ l0 = 43 → ¬ l0 = 45 → ¬ l0 = 42 → l0 = 47 → v = 1) → (¬ l0 = 59 → ¬ l0 = 43 → ¬ l0 = 45 → ¬ l0 = 42 → ¬ l0 = 47 → l0 = 40 → v = 1) → (¬ l0 = 59 → ¬ l0 = 43 → ¬ l0 = 45 → ¬ l0 = 42 → ¬ l0 = 47 → ¬ l0 = 40 → l0 = 41 → v = 1) → (¬ l0 = 59 → ¬ l0 = 43 → ¬ l0 = 45 → ¬ l0 = 42 → ¬ l0 = 47 → ¬ l0 = 40 → ¬ l0 = 41 → l0 = 60 → v = 1) → (¬ l0 = 59 → ¬ l0 = 43 → ¬ l0 = 45 → ¬ l0 = 42 → ¬ l0 = 47 → ¬ l0 = 40 → ¬ l0 = 41 → ¬ l0 = 60 → l0 = 61 → v = 1) → (¬ l0 = 59 → ¬ l0 = 43 → ¬ l0 = 45 → ¬ l0 = 42 → ¬ l0 = 47 → ¬ l0 = 40 → ¬ l0 = 41 → ¬ l0 = 60 → ¬ l0 = 61 → ¬ l0 = 62 → v = 0) → (¬ l0 = 59 → ¬ l0 = 43 → ¬ l0 = 45 → ¬ l0 = 42 → ¬ l0 = 47 → ¬ l0 = 40 → ¬ l0 = 41 → ¬ l0 = 60 → ¬ l0 = 61 → l0 = 62 → v = 1) → (zsg l0 → v = 1) → (¬ zsg l0 → v = 0) → Q v g) : w_Tokens_isSignOfLaw l0 g Q := by
  unfold w_Tokens_isSignOfLaw
  refine ⟨⟨by omega, by omega⟩, ?_⟩
  refine ⟨fun c11 => ?_, fun c11 => ?_⟩
  · exact hQ _ (by intros; omega) (by intros; omega) (by intros; omega) (by intros; omega) (by intros; omega) (by intros; omega) (by intros; omega) (by intros; omega) (by intros; omega) (by intros; omega) (by intros; omega) (by intro hv; unfold zsg at hv; omega) (by intro hv; unfold zsg at hv; omega)
  · refine ⟨fun c10 => ?_, fun c10 => ?_⟩
    · exact hQ _ (by intros; omega) (by intros; omega) (by intros; omega) (by intros; omega) (by intros; omega) (by intros; omega) (by intros; omega) (by intros; omega) (by intros; omega) (by intros; omega) (by intros; omega) (by intro hv; unfold zsg at hv; omega) (by intro hv; unfold zsg at hv; omega)
    · refine ⟨fun c9 => ?_, fun c9 => ?_⟩
      · exact hQ _ (by intros; omega) (by intros; omega) (by intros; omega) (by intros; omega) (by intros; omega) (by intros; omega) (by intros; omega) (by intros; omega) (by intros; omega) (by intros; omega) (by intros; omega) (by intro hv; unfold zsg at hv; omega) (by intro hv; unfold zsg at hv; omega)
      · refine ⟨fun c8 => ?_, fun c8 => ?_⟩
        · exact hQ _ (by intros; omega) (by intros; omega) (by intros; omega) (by intros; omega) (by intros; omega) (by intros; omega) (by intros; omega) (by intros; omega) (by intros; omega) (by intros; omega) (by intros; omega) (by intro hv; unfold zsg at hv; omega) (by intro hv; unfold zsg at hv; omega)
        · refine ⟨fun c7 => ?_, fun c7 => ?_⟩
          · exact hQ _ (by intros; omega) (by intros; omega) (by intros; omega) (by intros; omega) (by intros; omega) (by intros; omega) (by intros; omega) (by intros; omega) (by intros; omega) (by intros; omega) (by intros; omega) (by intro hv; unfold zsg at hv; omega) (by intro hv; unfold zsg at hv; omega)
          · refine ⟨fun c6 => ?_, fun c6 => ?_⟩
            · exact hQ _ (by intros; omega) (by intros; omega) (by intros; omega) (by intros; omega) (by intros; omega) (by intros; omega) (by intros; omega) (by intros; omega) (by intros; omega) (by intros; omega) (by intros; omega) (by intro hv; unfold zsg at hv; omega) (by intro hv; unfold zsg at hv; omega)
            · refine ⟨fun c5 => ?_, fun c5 => ?_⟩
              · exact hQ _ (by intros; omega) (by intros; omega) (by intros; omega) (by intros; omega) (by intros; omega) (by intros; omega) (by intros; omega) (by intros; omega) (by intros; omega) (by intros; omega) (by intros; omega) (by intro hv; unfold zsg at hv; omega) (by intro hv; unfold zsg at hv; omega)
              · refine ⟨fun c4 => ?_, fun c4 => ?_⟩
                · exact hQ _ (by intros; omega) (by intros; omega) (by intros; omega) (by intros; omega) (by intros; omega) (by intros; omega) (by intros; omega) (by intros; omega) (by intros; omega) (by intros; omega) (by intros; omega) (by intro hv; unfold zsg at hv; omega) (by intro hv; unfold zsg at hv; omega)
                · refine ⟨fun c3 => ?_, fun c3 => ?_⟩
                  · exact hQ _ (by intros; omega) (by intros; omega) (by intros; omega) (by intros; omega) (by intros; omega) (by intros; omega) (by intros; omega) (by intros; omega) (by intros; omega) (by intros; omega) (by intros; omega) (by intro hv; unfold zsg at hv; omega) (by intro hv; unfold zsg at hv; omega)
                  · refine ⟨fun c2 => ?_, fun c2 => ?_⟩
                    · exact hQ _ (by intros; omega) (by intros; omega) (by intros; omega) (by intros; omega) (by intros; omega) (by intros; omega) (by intros; omega) (by intros; omega) (by intros; omega) (by intros; omega) (by intros; omega) (by intro hv; unfold zsg at hv; omega) (by intro hv; unfold zsg at hv; omega)
                    · exact hQ _ (by intros; omega) (by intros; omega) (by intros; omega) (by intros; omega) (by intros; omega) (by intros; omega) (by intros; omega) (by intros; omega) (by intros; omega) (by intros; omega) (by intros; omega) (by intro hv; unfold zsg at hv; omega) (by intro hv; unfold zsg at hv; omega)
